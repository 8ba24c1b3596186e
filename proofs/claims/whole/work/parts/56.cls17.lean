theorem cpy_z {α : Type} {f g : Nat → α} {L j : Nat} (h : j < L) : va_cpy f g 0 0 L j = f j := by rw [pk_cpy_in (Nat.zero_le _) (by omega), Nat.sub_zero, Nat.zero_add]
def cpP (d s : Nat) (I S : Nat → Nat → Int32) (J T : Nat → Nat → Int64) (I' S' : Nat → Nat → Int32) (J' T' : Nat → Nat → Int64) : Prop := S' = S ∧ T' = T ∧ (∀ p, (p < d ∨ d + 8 ≤ p) → I' p = I p ∧ J' p = J p) ∧ (I' d 0 = I s 0 ∧ I' d 1 = I s 1 ∧ I' d 2 = I s 2 ∧ I' d 3 = I s 3 ∧ I' d 4 = I s 4 ∧ I' d 10 = I s 10 ∧ I' d 12 = I s 12 ∧ I' d 15 = I s 15) ∧ J' d 5 = J s 5 ∧ (∀ j, j < 24 → I' (d + 1) j = I (s + 1) j) ∧ (∀ j, j < 6 → I' (d + 2) j = I (s + 2) j) ∧ (∀ j, j < 4 → I' (d + 3) j = I (s + 3) j) ∧ (∀ j, j < 16 → I' (d + 4) j = I (s + 4) j) ∧ (∀ j, j < 12 → J' (d + 5) j = J (s + 5) j) ∧ (∀ j, j < 6 → I' (d + 6) j = I (s + 6) j) ∧ (∀ j, j < 6 → I' (d + 7) j = I (s + 7) j)
theorem sys_X9 {I : Nat → Nat → Int32} {J : Nat → Nat → Int64} {X Y : Nat → Option Nat} : hup (sysH I J X) 9 (.inl (3, 2, .inr (.inr (.inr (.inr Y))))) = sysH I J Y := sys_up (by decide) rfl
section MK3
variable {xl : Nat} {xs : Nat → Int32} {F L B1 B2 : Nat} {M : Mt} {pc : Nat} {lv lv' : List (Option Value)} {st : List Value} {n : Nat} {h : Nat → PC} {Q : QT} {q : Nat}
theorem ev_aload_nN {i : Fin 4} {q : Nat} (d : decode M.2.1 pc = .ok (.aload_n i, 1)) (hl : lv[(i : Nat)]? = some (some .null)) (hq : pc + 1 = q) (k : Ev xl xs F L B1 B2 M q lv (.null :: st) n h Q) : Ev xl xs F L B1 B2 M pc lv st n h Q := by
  subst hq
  intro p l e R s m args below meth cc Z D cA sz zd n0 ad0 CM SM C ad H locs cells slots ls hH hE hS hc hs hll o1 o2
  exact lv_aload_nN C.1 C.2.1 d rfl (hll.2.2 _ _ hl) (k _ _ _ _ _ _ _ _ _ _ _ _ _ _ _ _ _ _ _ C ad H locs cells slots ls hH hE hS hc hs hll o1 (okl_c trivial o2))
theorem ev_astNi_2 {a0 a2 : Option Value} {x : Int32} {t : List (Option Value)} (d : decode M.2.1 pc = .ok (.astore_n 2, 1)) (hq : pc + 1 = q) (k : Ev xl xs F L B1 B2 M q (a0 :: some (.int x) :: some .null :: t) st n h Q) : Ev xl xs F L B1 B2 M pc (a0 :: some (.int x) :: a2 :: t) (.null :: st) n h Q := ev_astN_2 d rfl hq k
end MK3
theorem cpP_st {d s : Nat} {I S : Nat → Nat → Int32} {J T : Nat → Nat → Int64} {I' S' : Nat → Nat → Int32} {J' T' : Nat → Nat → Int64} (h : cpP d s I S J T I' S' J' T') : cpP d s I S J T I' S J' T := ⟨rfl, rfl, h.2.2⟩
section CLS17
variable {xl : Nat} {xs : Nat → Int32} {n : Nat} {h : Nat → PC} {I S : Nat → Nat → Int32} {J T : Nat → Nat → Int64} {X : Nat → Option Nat} {t sl wy wi he m nn : Nat}
theorem k_copy_1_49 (hn : 57 ≤ n) : RnX xl xs 1 26 mX4_copyFrom [.ref 1, .ref 49] n I S J T X none (cpP 1 49 I S J T) := by
  intro Q hQ
  show Ev xl xs 1 26 0 0 mX4_copyFrom 0 [some (.ref 1), some (.ref 49)] [] n (sysH (ov I S) (ovJ J T) X) Q
  refine ev_aload_n (q := 1) dX4_copyFrom_0 rfl rfl ?_
  refine ev_aload_n (q := 2) dX4_copyFrom_1 rfl rfl ?_
  refine ev_get (q := 5) dX4_copyFrom_2 fr_X4_34 rfl (by omega) rfl rfl ?_
  first | refine ev_putIK (q := 8) dX4_copyFrom_5 fa_X4_34 rfl (by decide) (by omega) (Nat.le_of_ble_eq_true rfl) ⟨rfl, rfl⟩ rfl rfl rfl ?_ | refine ev_putIR (q := 8) dX4_copyFrom_5 fa_X4_34 rfl (by decide) (by omega) (Nat.le_of_ble_eq_true rfl) ⟨rfl, rfl⟩ rfl rfl rfl ?_
  refine ev_aload_n (q := 9) dX4_copyFrom_8 rfl rfl ?_
  refine ev_aload_n (q := 10) dX4_copyFrom_9 rfl rfl ?_
  refine ev_get (q := 13) dX4_copyFrom_10 fr_X4_38 rfl (by omega) rfl rfl ?_
  first | refine ev_putIK (q := 16) dX4_copyFrom_13 fa_X4_38 rfl (by decide) (by omega) (Nat.le_of_ble_eq_true rfl) ⟨rfl, rfl⟩ rfl rfl rfl ?_ | refine ev_putIR (q := 16) dX4_copyFrom_13 fa_X4_38 rfl (by decide) (by omega) (Nat.le_of_ble_eq_true rfl) ⟨rfl, rfl⟩ rfl rfl rfl ?_
  refine ev_aload_n (q := 17) dX4_copyFrom_16 rfl rfl ?_
  refine ev_aload_n (q := 18) dX4_copyFrom_17 rfl rfl ?_
  refine ev_get (q := 21) dX4_copyFrom_18 fr_X4_41 rfl (by omega) rfl rfl ?_
  first | refine ev_putIK (q := 24) dX4_copyFrom_21 fa_X4_41 rfl (by decide) (by omega) (Nat.le_of_ble_eq_true rfl) ⟨rfl, rfl⟩ rfl rfl rfl ?_ | refine ev_putIR (q := 24) dX4_copyFrom_21 fa_X4_41 rfl (by decide) (by omega) (Nat.le_of_ble_eq_true rfl) ⟨rfl, rfl⟩ rfl rfl rfl ?_
  refine ev_aload_n (q := 25) dX4_copyFrom_24 rfl rfl ?_
  refine ev_aload_n (q := 26) dX4_copyFrom_25 rfl rfl ?_
  refine ev_get (q := 29) dX4_copyFrom_26 fr_X4_44 rfl (by omega) rfl rfl ?_
  first | refine ev_putIK (q := 32) dX4_copyFrom_29 fa_X4_44 rfl (by decide) (by omega) (Nat.le_of_ble_eq_true rfl) ⟨rfl, rfl⟩ rfl rfl rfl ?_ | refine ev_putIR (q := 32) dX4_copyFrom_29 fa_X4_44 rfl (by decide) (by omega) (Nat.le_of_ble_eq_true rfl) ⟨rfl, rfl⟩ rfl rfl rfl ?_
  refine ev_aload_n (q := 33) dX4_copyFrom_32 rfl rfl ?_
  refine ev_aload_n (q := 34) dX4_copyFrom_33 rfl rfl ?_
  refine ev_get (q := 37) dX4_copyFrom_34 fr_X4_47 rfl (by omega) rfl rfl ?_
  first | refine ev_putIK (q := 40) dX4_copyFrom_37 fa_X4_47 rfl (by decide) (by omega) (Nat.le_of_ble_eq_true rfl) ⟨rfl, rfl⟩ rfl rfl rfl ?_ | refine ev_putIR (q := 40) dX4_copyFrom_37 fa_X4_47 rfl (by decide) (by omega) (Nat.le_of_ble_eq_true rfl) ⟨rfl, rfl⟩ rfl rfl rfl ?_
  refine ev_aload_n (q := 41) dX4_copyFrom_40 rfl rfl ?_
  refine ev_aload_n (q := 42) dX4_copyFrom_41 rfl rfl ?_
  refine ev_get (q := 45) dX4_copyFrom_42 fr_X4_54 rfl (by omega) rfl rfl ?_
  refine ev_putJR (q := 48) dX4_copyFrom_45 fa_X4_54 rfl (by decide) (by omega) (Nat.le_of_ble_eq_true rfl) ⟨rfl, rfl⟩ rfl rfl rfl ?_
  refine ev_aload_n (q := 49) dX4_copyFrom_48 rfl rfl ?_
  refine ev_get (q := 52) dX4_copyFrom_49 fr_X4_9 rfl (by omega) rfl rfl ?_
  refine ev_iconst (q := 53) (0) dX4_copyFrom_52 (by decide) rfl ?_
  refine ev_aload_n (q := 54) dX4_copyFrom_53 rfl rfl ?_
  refine ev_get (q := 57) dX4_copyFrom_54 fr_X4_9 rfl (by omega) rfl rfl ?_
  refine ev_iconst (q := 58) (0) dX4_copyFrom_57 (by decide) rfl ?_
  refine ev_bipush (q := 60) (24) dX4_copyFrom_58 (by decide) rfl ?_
  refine ev_cpyI (q := 63) dX4_copyFrom_60 (tb_in (tt_2 218 rfl) rfl) rfl (by omega) rfl (by omega) (by decide) (by decide) (by decide) (by decide) (by decide) (by decide) (by decide) rfl ?_
  rw [ovI_r _ (fun _ => rfl)]
  refine ev_aload_n (q := 64) dX4_copyFrom_63 rfl rfl ?_
  refine ev_get (q := 67) dX4_copyFrom_64 fr_X4_15 rfl (by omega) rfl rfl ?_
  refine ev_iconst (q := 68) (0) dX4_copyFrom_67 (by decide) rfl ?_
  refine ev_aload_n (q := 69) dX4_copyFrom_68 rfl rfl ?_
  refine ev_get (q := 72) dX4_copyFrom_69 fr_X4_15 rfl (by omega) rfl rfl ?_
  refine ev_iconst (q := 73) (0) dX4_copyFrom_72 (by decide) rfl ?_
  refine ev_bipush (q := 75) (6) dX4_copyFrom_73 (by decide) rfl ?_
  refine ev_cpyI (q := 78) dX4_copyFrom_75 (tb_in (tt_2 218 rfl) rfl) rfl (by omega) rfl (by omega) (by decide) (by decide) (by decide) (by decide) (by decide) (by decide) (by decide) rfl ?_
  rw [ovI_r _ (fun _ => rfl)]
  refine ev_aload_n (q := 79) dX4_copyFrom_78 rfl rfl ?_
  refine ev_get (q := 82) dX4_copyFrom_79 fr_X4_18 rfl (by omega) rfl rfl ?_
  refine ev_iconst (q := 83) (0) dX4_copyFrom_82 (by decide) rfl ?_
  refine ev_aload_n (q := 84) dX4_copyFrom_83 rfl rfl ?_
  refine ev_get (q := 87) dX4_copyFrom_84 fr_X4_18 rfl (by omega) rfl rfl ?_
  refine ev_iconst (q := 88) (0) dX4_copyFrom_87 (by decide) rfl ?_
  refine ev_iconst (q := 89) (4) dX4_copyFrom_88 (by decide) rfl ?_
  refine ev_cpyI (q := 92) dX4_copyFrom_89 (tb_in (tt_2 218 rfl) rfl) rfl (by omega) rfl (by omega) (by decide) (by decide) (by decide) (by decide) (by decide) (by decide) (by decide) rfl ?_
  rw [ovI_r _ (fun _ => rfl)]
  refine ev_aload_n (q := 93) dX4_copyFrom_92 rfl rfl ?_
  refine ev_get (q := 96) dX4_copyFrom_93 fr_X4_21 rfl (by omega) rfl rfl ?_
  refine ev_iconst (q := 97) (0) dX4_copyFrom_96 (by decide) rfl ?_
  refine ev_aload_n (q := 98) dX4_copyFrom_97 rfl rfl ?_
  refine ev_get (q := 101) dX4_copyFrom_98 fr_X4_21 rfl (by omega) rfl rfl ?_
  refine ev_iconst (q := 102) (0) dX4_copyFrom_101 (by decide) rfl ?_
  refine ev_bipush (q := 104) (16) dX4_copyFrom_102 (by decide) rfl ?_
  refine ev_cpyI (q := 107) dX4_copyFrom_104 (tb_in (tt_2 218 rfl) rfl) rfl (by omega) rfl (by omega) (by decide) (by decide) (by decide) (by decide) (by decide) (by decide) (by decide) rfl ?_
  rw [ovI_r _ (fun _ => rfl)]
  refine ev_aload_n (q := 108) dX4_copyFrom_107 rfl rfl ?_
  refine ev_aload_n (q := 109) dX4_copyFrom_108 rfl rfl ?_
  refine ev_get (q := 112) dX4_copyFrom_109 fr_X4_58 rfl (by omega) rfl rfl ?_
  first | refine ev_putIK (q := 115) dX4_copyFrom_112 fa_X4_58 rfl (by decide) (by omega) (Nat.le_of_ble_eq_true rfl) ⟨rfl, rfl⟩ rfl rfl rfl ?_ | refine ev_putIR (q := 115) dX4_copyFrom_112 fa_X4_58 rfl (by decide) (by omega) (Nat.le_of_ble_eq_true rfl) ⟨rfl, rfl⟩ rfl rfl rfl ?_
  refine ev_aload_n (q := 116) dX4_copyFrom_115 rfl rfl ?_
  refine ev_get (q := 119) dX4_copyFrom_116 fr_X4_24 rfl (by omega) rfl rfl ?_
  refine ev_iconst (q := 120) (0) dX4_copyFrom_119 (by decide) rfl ?_
  refine ev_aload_n (q := 121) dX4_copyFrom_120 rfl rfl ?_
  refine ev_get (q := 124) dX4_copyFrom_121 fr_X4_24 rfl (by omega) rfl rfl ?_
  refine ev_iconst (q := 125) (0) dX4_copyFrom_124 (by decide) rfl ?_
  refine ev_bipush (q := 127) (12) dX4_copyFrom_125 (by decide) rfl ?_
  refine ev_cpyJ (q := 130) dX4_copyFrom_127 (tb_in (tt_2 218 rfl) rfl) rfl (by omega) rfl (by omega) (by decide) (by decide) (by decide) (by decide) (by decide) (by decide) (by decide) rfl ?_
  rw [ovJ_r _ rfl]
  refine ev_aload_n (q := 131) dX4_copyFrom_130 rfl rfl ?_
  refine ev_aload_n (q := 132) dX4_copyFrom_131 rfl rfl ?_
  refine ev_get (q := 135) dX4_copyFrom_132 fr_X4_64 rfl (by omega) rfl rfl ?_
  first | refine ev_putIK (q := 138) dX4_copyFrom_135 fa_X4_64 rfl (by decide) (by omega) (Nat.le_of_ble_eq_true rfl) ⟨rfl, rfl⟩ rfl rfl rfl ?_ | refine ev_putIR (q := 138) dX4_copyFrom_135 fa_X4_64 rfl (by decide) (by omega) (Nat.le_of_ble_eq_true rfl) ⟨rfl, rfl⟩ rfl rfl rfl ?_
  refine ev_aload_n (q := 139) dX4_copyFrom_138 rfl rfl ?_
  refine ev_get (q := 142) dX4_copyFrom_139 fr_X4_28 rfl (by omega) rfl rfl ?_
  refine ev_iconst (q := 143) (0) dX4_copyFrom_142 (by decide) rfl ?_
  refine ev_aload_n (q := 144) dX4_copyFrom_143 rfl rfl ?_
  refine ev_get (q := 147) dX4_copyFrom_144 fr_X4_28 rfl (by omega) rfl rfl ?_
  refine ev_iconst (q := 148) (0) dX4_copyFrom_147 (by decide) rfl ?_
  refine ev_bipush (q := 150) (6) dX4_copyFrom_148 (by decide) rfl ?_
  refine ev_cpyI (q := 153) dX4_copyFrom_150 (tb_in (tt_2 218 rfl) rfl) rfl (by omega) rfl (by omega) (by decide) (by decide) (by decide) (by decide) (by decide) (by decide) (by decide) rfl ?_
  rw [ovI_r _ (fun _ => rfl)]
  refine ev_aload_n (q := 154) dX4_copyFrom_153 rfl rfl ?_
  refine ev_get (q := 157) dX4_copyFrom_154 fr_X4_31 rfl (by omega) rfl rfl ?_
  refine ev_iconst (q := 158) (0) dX4_copyFrom_157 (by decide) rfl ?_
  refine ev_aload_n (q := 159) dX4_copyFrom_158 rfl rfl ?_
  refine ev_get (q := 162) dX4_copyFrom_159 fr_X4_31 rfl (by omega) rfl rfl ?_
  refine ev_iconst (q := 163) (0) dX4_copyFrom_162 (by decide) rfl ?_
  refine ev_bipush (q := 165) (6) dX4_copyFrom_163 (by decide) rfl ?_
  refine ev_cpyI (q := 168) dX4_copyFrom_165 (tb_in (tt_2 218 rfl) rfl) rfl (by omega) rfl (by omega) (by decide) (by decide) (by decide) (by decide) (by decide) (by decide) (by decide) rfl ?_
  rw [ovI_r _ (fun _ => rfl)]
  refine ev_aload_n (q := 169) dX4_copyFrom_168 rfl rfl ?_
  refine ev_aload_n (q := 170) dX4_copyFrom_169 rfl rfl ?_
  refine ev_get (q := 173) dX4_copyFrom_170 fr_X4_67 rfl (by omega) rfl rfl ?_
  first | refine ev_putIK (q := 176) dX4_copyFrom_173 fa_X4_67 rfl (by decide) (by omega) (Nat.le_of_ble_eq_true rfl) ⟨rfl, rfl⟩ rfl rfl rfl ?_ | refine ev_putIR (q := 176) dX4_copyFrom_173 fa_X4_67 rfl (by decide) (by omega) (Nat.le_of_ble_eq_true rfl) ⟨rfl, rfl⟩ rfl rfl rfl ?_
  exact ev_retE dX4_copyFrom_176 rfl rfl rfl (hQ _ _ _ _ ⟨rfl, rfl, fun p hp => ⟨by simp [setI, show p ≠ 1 by omega, show p ≠ 2 by omega, show p ≠ 3 by omega, show p ≠ 4 by omega, show p ≠ 5 by omega, show p ≠ 6 by omega, show p ≠ 7 by omega, show p ≠ 8 by omega], by simp [setJ, show p ≠ 1 by omega, show p ≠ 2 by omega, show p ≠ 3 by omega, show p ≠ 4 by omega, show p ≠ 5 by omega, show p ≠ 6 by omega, show p ≠ 7 by omega, show p ≠ 8 by omega]⟩, ⟨rfl, rfl, rfl, rfl, rfl, rfl, rfl, rfl⟩, rfl, fun j hj => (show va_cpy (I 50) (I 2) 0 0 24 j = I 50 j from cpy_z hj), fun j hj => (show va_cpy (I 51) (I 3) 0 0 6 j = I 51 j from cpy_z hj), fun j hj => (show va_cpy (I 52) (I 4) 0 0 4 j = I 52 j from cpy_z hj), fun j hj => (show va_cpy (I 53) (I 5) 0 0 16 j = I 53 j from cpy_z hj), fun j hj => (show va_cpy (J 54) (J 6) 0 0 12 j = J 54 j from cpy_z hj), fun j hj => (show va_cpy (I 55) (I 7) 0 0 6 j = I 55 j from cpy_z hj), fun j hj => (show va_cpy (I 56) (I 8) 0 0 6 j = I 56 j from cpy_z hj)⟩)
theorem k_copy_1_57 (hn : 65 ≤ n) : RnX xl xs 1 26 mX4_copyFrom [.ref 1, .ref 57] n I S J T X none (cpP 1 57 I S J T) := by
  intro Q hQ
  show Ev xl xs 1 26 0 0 mX4_copyFrom 0 [some (.ref 1), some (.ref 57)] [] n (sysH (ov I S) (ovJ J T) X) Q
  refine ev_aload_n (q := 1) dX4_copyFrom_0 rfl rfl ?_
  refine ev_aload_n (q := 2) dX4_copyFrom_1 rfl rfl ?_
  refine ev_get (q := 5) dX4_copyFrom_2 fr_X4_34 rfl (by omega) rfl rfl ?_
  first | refine ev_putIK (q := 8) dX4_copyFrom_5 fa_X4_34 rfl (by decide) (by omega) (Nat.le_of_ble_eq_true rfl) ⟨rfl, rfl⟩ rfl rfl rfl ?_ | refine ev_putIR (q := 8) dX4_copyFrom_5 fa_X4_34 rfl (by decide) (by omega) (Nat.le_of_ble_eq_true rfl) ⟨rfl, rfl⟩ rfl rfl rfl ?_
  refine ev_aload_n (q := 9) dX4_copyFrom_8 rfl rfl ?_
  refine ev_aload_n (q := 10) dX4_copyFrom_9 rfl rfl ?_
  refine ev_get (q := 13) dX4_copyFrom_10 fr_X4_38 rfl (by omega) rfl rfl ?_
  first | refine ev_putIK (q := 16) dX4_copyFrom_13 fa_X4_38 rfl (by decide) (by omega) (Nat.le_of_ble_eq_true rfl) ⟨rfl, rfl⟩ rfl rfl rfl ?_ | refine ev_putIR (q := 16) dX4_copyFrom_13 fa_X4_38 rfl (by decide) (by omega) (Nat.le_of_ble_eq_true rfl) ⟨rfl, rfl⟩ rfl rfl rfl ?_
  refine ev_aload_n (q := 17) dX4_copyFrom_16 rfl rfl ?_
  refine ev_aload_n (q := 18) dX4_copyFrom_17 rfl rfl ?_
  refine ev_get (q := 21) dX4_copyFrom_18 fr_X4_41 rfl (by omega) rfl rfl ?_
  first | refine ev_putIK (q := 24) dX4_copyFrom_21 fa_X4_41 rfl (by decide) (by omega) (Nat.le_of_ble_eq_true rfl) ⟨rfl, rfl⟩ rfl rfl rfl ?_ | refine ev_putIR (q := 24) dX4_copyFrom_21 fa_X4_41 rfl (by decide) (by omega) (Nat.le_of_ble_eq_true rfl) ⟨rfl, rfl⟩ rfl rfl rfl ?_
  refine ev_aload_n (q := 25) dX4_copyFrom_24 rfl rfl ?_
  refine ev_aload_n (q := 26) dX4_copyFrom_25 rfl rfl ?_
  refine ev_get (q := 29) dX4_copyFrom_26 fr_X4_44 rfl (by omega) rfl rfl ?_
  first | refine ev_putIK (q := 32) dX4_copyFrom_29 fa_X4_44 rfl (by decide) (by omega) (Nat.le_of_ble_eq_true rfl) ⟨rfl, rfl⟩ rfl rfl rfl ?_ | refine ev_putIR (q := 32) dX4_copyFrom_29 fa_X4_44 rfl (by decide) (by omega) (Nat.le_of_ble_eq_true rfl) ⟨rfl, rfl⟩ rfl rfl rfl ?_
  refine ev_aload_n (q := 33) dX4_copyFrom_32 rfl rfl ?_
  refine ev_aload_n (q := 34) dX4_copyFrom_33 rfl rfl ?_
  refine ev_get (q := 37) dX4_copyFrom_34 fr_X4_47 rfl (by omega) rfl rfl ?_
  first | refine ev_putIK (q := 40) dX4_copyFrom_37 fa_X4_47 rfl (by decide) (by omega) (Nat.le_of_ble_eq_true rfl) ⟨rfl, rfl⟩ rfl rfl rfl ?_ | refine ev_putIR (q := 40) dX4_copyFrom_37 fa_X4_47 rfl (by decide) (by omega) (Nat.le_of_ble_eq_true rfl) ⟨rfl, rfl⟩ rfl rfl rfl ?_
  refine ev_aload_n (q := 41) dX4_copyFrom_40 rfl rfl ?_
  refine ev_aload_n (q := 42) dX4_copyFrom_41 rfl rfl ?_
  refine ev_get (q := 45) dX4_copyFrom_42 fr_X4_54 rfl (by omega) rfl rfl ?_
  refine ev_putJR (q := 48) dX4_copyFrom_45 fa_X4_54 rfl (by decide) (by omega) (Nat.le_of_ble_eq_true rfl) ⟨rfl, rfl⟩ rfl rfl rfl ?_
  refine ev_aload_n (q := 49) dX4_copyFrom_48 rfl rfl ?_
  refine ev_get (q := 52) dX4_copyFrom_49 fr_X4_9 rfl (by omega) rfl rfl ?_
  refine ev_iconst (q := 53) (0) dX4_copyFrom_52 (by decide) rfl ?_
  refine ev_aload_n (q := 54) dX4_copyFrom_53 rfl rfl ?_
  refine ev_get (q := 57) dX4_copyFrom_54 fr_X4_9 rfl (by omega) rfl rfl ?_
  refine ev_iconst (q := 58) (0) dX4_copyFrom_57 (by decide) rfl ?_
  refine ev_bipush (q := 60) (24) dX4_copyFrom_58 (by decide) rfl ?_
  refine ev_cpyI (q := 63) dX4_copyFrom_60 (tb_in (tt_2 218 rfl) rfl) rfl (by omega) rfl (by omega) (by decide) (by decide) (by decide) (by decide) (by decide) (by decide) (by decide) rfl ?_
  rw [ovI_r _ (fun _ => rfl)]
  refine ev_aload_n (q := 64) dX4_copyFrom_63 rfl rfl ?_
  refine ev_get (q := 67) dX4_copyFrom_64 fr_X4_15 rfl (by omega) rfl rfl ?_
  refine ev_iconst (q := 68) (0) dX4_copyFrom_67 (by decide) rfl ?_
  refine ev_aload_n (q := 69) dX4_copyFrom_68 rfl rfl ?_
  refine ev_get (q := 72) dX4_copyFrom_69 fr_X4_15 rfl (by omega) rfl rfl ?_
  refine ev_iconst (q := 73) (0) dX4_copyFrom_72 (by decide) rfl ?_
  refine ev_bipush (q := 75) (6) dX4_copyFrom_73 (by decide) rfl ?_
  refine ev_cpyI (q := 78) dX4_copyFrom_75 (tb_in (tt_2 218 rfl) rfl) rfl (by omega) rfl (by omega) (by decide) (by decide) (by decide) (by decide) (by decide) (by decide) (by decide) rfl ?_
  rw [ovI_r _ (fun _ => rfl)]
  refine ev_aload_n (q := 79) dX4_copyFrom_78 rfl rfl ?_
  refine ev_get (q := 82) dX4_copyFrom_79 fr_X4_18 rfl (by omega) rfl rfl ?_
  refine ev_iconst (q := 83) (0) dX4_copyFrom_82 (by decide) rfl ?_
  refine ev_aload_n (q := 84) dX4_copyFrom_83 rfl rfl ?_
  refine ev_get (q := 87) dX4_copyFrom_84 fr_X4_18 rfl (by omega) rfl rfl ?_
  refine ev_iconst (q := 88) (0) dX4_copyFrom_87 (by decide) rfl ?_
  refine ev_iconst (q := 89) (4) dX4_copyFrom_88 (by decide) rfl ?_
  refine ev_cpyI (q := 92) dX4_copyFrom_89 (tb_in (tt_2 218 rfl) rfl) rfl (by omega) rfl (by omega) (by decide) (by decide) (by decide) (by decide) (by decide) (by decide) (by decide) rfl ?_
  rw [ovI_r _ (fun _ => rfl)]
  refine ev_aload_n (q := 93) dX4_copyFrom_92 rfl rfl ?_
  refine ev_get (q := 96) dX4_copyFrom_93 fr_X4_21 rfl (by omega) rfl rfl ?_
  refine ev_iconst (q := 97) (0) dX4_copyFrom_96 (by decide) rfl ?_
  refine ev_aload_n (q := 98) dX4_copyFrom_97 rfl rfl ?_
  refine ev_get (q := 101) dX4_copyFrom_98 fr_X4_21 rfl (by omega) rfl rfl ?_
  refine ev_iconst (q := 102) (0) dX4_copyFrom_101 (by decide) rfl ?_
  refine ev_bipush (q := 104) (16) dX4_copyFrom_102 (by decide) rfl ?_
  refine ev_cpyI (q := 107) dX4_copyFrom_104 (tb_in (tt_2 218 rfl) rfl) rfl (by omega) rfl (by omega) (by decide) (by decide) (by decide) (by decide) (by decide) (by decide) (by decide) rfl ?_
  rw [ovI_r _ (fun _ => rfl)]
  refine ev_aload_n (q := 108) dX4_copyFrom_107 rfl rfl ?_
  refine ev_aload_n (q := 109) dX4_copyFrom_108 rfl rfl ?_
  refine ev_get (q := 112) dX4_copyFrom_109 fr_X4_58 rfl (by omega) rfl rfl ?_
  first | refine ev_putIK (q := 115) dX4_copyFrom_112 fa_X4_58 rfl (by decide) (by omega) (Nat.le_of_ble_eq_true rfl) ⟨rfl, rfl⟩ rfl rfl rfl ?_ | refine ev_putIR (q := 115) dX4_copyFrom_112 fa_X4_58 rfl (by decide) (by omega) (Nat.le_of_ble_eq_true rfl) ⟨rfl, rfl⟩ rfl rfl rfl ?_
  refine ev_aload_n (q := 116) dX4_copyFrom_115 rfl rfl ?_
  refine ev_get (q := 119) dX4_copyFrom_116 fr_X4_24 rfl (by omega) rfl rfl ?_
  refine ev_iconst (q := 120) (0) dX4_copyFrom_119 (by decide) rfl ?_
  refine ev_aload_n (q := 121) dX4_copyFrom_120 rfl rfl ?_
  refine ev_get (q := 124) dX4_copyFrom_121 fr_X4_24 rfl (by omega) rfl rfl ?_
  refine ev_iconst (q := 125) (0) dX4_copyFrom_124 (by decide) rfl ?_
  refine ev_bipush (q := 127) (12) dX4_copyFrom_125 (by decide) rfl ?_
  refine ev_cpyJ (q := 130) dX4_copyFrom_127 (tb_in (tt_2 218 rfl) rfl) rfl (by omega) rfl (by omega) (by decide) (by decide) (by decide) (by decide) (by decide) (by decide) (by decide) rfl ?_
  rw [ovJ_r _ rfl]
  refine ev_aload_n (q := 131) dX4_copyFrom_130 rfl rfl ?_
  refine ev_aload_n (q := 132) dX4_copyFrom_131 rfl rfl ?_
  refine ev_get (q := 135) dX4_copyFrom_132 fr_X4_64 rfl (by omega) rfl rfl ?_
  first | refine ev_putIK (q := 138) dX4_copyFrom_135 fa_X4_64 rfl (by decide) (by omega) (Nat.le_of_ble_eq_true rfl) ⟨rfl, rfl⟩ rfl rfl rfl ?_ | refine ev_putIR (q := 138) dX4_copyFrom_135 fa_X4_64 rfl (by decide) (by omega) (Nat.le_of_ble_eq_true rfl) ⟨rfl, rfl⟩ rfl rfl rfl ?_
  refine ev_aload_n (q := 139) dX4_copyFrom_138 rfl rfl ?_
  refine ev_get (q := 142) dX4_copyFrom_139 fr_X4_28 rfl (by omega) rfl rfl ?_
  refine ev_iconst (q := 143) (0) dX4_copyFrom_142 (by decide) rfl ?_
  refine ev_aload_n (q := 144) dX4_copyFrom_143 rfl rfl ?_
  refine ev_get (q := 147) dX4_copyFrom_144 fr_X4_28 rfl (by omega) rfl rfl ?_
  refine ev_iconst (q := 148) (0) dX4_copyFrom_147 (by decide) rfl ?_
  refine ev_bipush (q := 150) (6) dX4_copyFrom_148 (by decide) rfl ?_
  refine ev_cpyI (q := 153) dX4_copyFrom_150 (tb_in (tt_2 218 rfl) rfl) rfl (by omega) rfl (by omega) (by decide) (by decide) (by decide) (by decide) (by decide) (by decide) (by decide) rfl ?_
  rw [ovI_r _ (fun _ => rfl)]
  refine ev_aload_n (q := 154) dX4_copyFrom_153 rfl rfl ?_
  refine ev_get (q := 157) dX4_copyFrom_154 fr_X4_31 rfl (by omega) rfl rfl ?_
  refine ev_iconst (q := 158) (0) dX4_copyFrom_157 (by decide) rfl ?_
  refine ev_aload_n (q := 159) dX4_copyFrom_158 rfl rfl ?_
  refine ev_get (q := 162) dX4_copyFrom_159 fr_X4_31 rfl (by omega) rfl rfl ?_
  refine ev_iconst (q := 163) (0) dX4_copyFrom_162 (by decide) rfl ?_
  refine ev_bipush (q := 165) (6) dX4_copyFrom_163 (by decide) rfl ?_
  refine ev_cpyI (q := 168) dX4_copyFrom_165 (tb_in (tt_2 218 rfl) rfl) rfl (by omega) rfl (by omega) (by decide) (by decide) (by decide) (by decide) (by decide) (by decide) (by decide) rfl ?_
  rw [ovI_r _ (fun _ => rfl)]
  refine ev_aload_n (q := 169) dX4_copyFrom_168 rfl rfl ?_
  refine ev_aload_n (q := 170) dX4_copyFrom_169 rfl rfl ?_
  refine ev_get (q := 173) dX4_copyFrom_170 fr_X4_67 rfl (by omega) rfl rfl ?_
  first | refine ev_putIK (q := 176) dX4_copyFrom_173 fa_X4_67 rfl (by decide) (by omega) (Nat.le_of_ble_eq_true rfl) ⟨rfl, rfl⟩ rfl rfl rfl ?_ | refine ev_putIR (q := 176) dX4_copyFrom_173 fa_X4_67 rfl (by decide) (by omega) (Nat.le_of_ble_eq_true rfl) ⟨rfl, rfl⟩ rfl rfl rfl ?_
  exact ev_retE dX4_copyFrom_176 rfl rfl rfl (hQ _ _ _ _ ⟨rfl, rfl, fun p hp => ⟨by simp [setI, show p ≠ 1 by omega, show p ≠ 2 by omega, show p ≠ 3 by omega, show p ≠ 4 by omega, show p ≠ 5 by omega, show p ≠ 6 by omega, show p ≠ 7 by omega, show p ≠ 8 by omega], by simp [setJ, show p ≠ 1 by omega, show p ≠ 2 by omega, show p ≠ 3 by omega, show p ≠ 4 by omega, show p ≠ 5 by omega, show p ≠ 6 by omega, show p ≠ 7 by omega, show p ≠ 8 by omega]⟩, ⟨rfl, rfl, rfl, rfl, rfl, rfl, rfl, rfl⟩, rfl, fun j hj => (show va_cpy (I 58) (I 2) 0 0 24 j = I 58 j from cpy_z hj), fun j hj => (show va_cpy (I 59) (I 3) 0 0 6 j = I 59 j from cpy_z hj), fun j hj => (show va_cpy (I 60) (I 4) 0 0 4 j = I 60 j from cpy_z hj), fun j hj => (show va_cpy (I 61) (I 5) 0 0 16 j = I 61 j from cpy_z hj), fun j hj => (show va_cpy (J 62) (J 6) 0 0 12 j = J 62 j from cpy_z hj), fun j hj => (show va_cpy (I 63) (I 7) 0 0 6 j = I 63 j from cpy_z hj), fun j hj => (show va_cpy (I 64) (I 8) 0 0 6 j = I 64 j from cpy_z hj)⟩)
theorem k_copy_49_1 (hn : 57 ≤ n) : RnX xl xs 1 26 mX4_copyFrom [.ref 49, .ref 1] n I S J T X none (cpP 49 1 I S J T) := by
  intro Q hQ
  show Ev xl xs 1 26 0 0 mX4_copyFrom 0 [some (.ref 49), some (.ref 1)] [] n (sysH (ov I S) (ovJ J T) X) Q
  refine ev_aload_n (q := 1) dX4_copyFrom_0 rfl rfl ?_
  refine ev_aload_n (q := 2) dX4_copyFrom_1 rfl rfl ?_
  refine ev_get (q := 5) dX4_copyFrom_2 fr_X4_34 rfl (by omega) rfl rfl ?_
  first | refine ev_putIK (q := 8) dX4_copyFrom_5 fa_X4_34 rfl (by decide) (by omega) (Nat.le_of_ble_eq_true rfl) ⟨rfl, rfl⟩ rfl rfl rfl ?_ | refine ev_putIR (q := 8) dX4_copyFrom_5 fa_X4_34 rfl (by decide) (by omega) (Nat.le_of_ble_eq_true rfl) ⟨rfl, rfl⟩ rfl rfl rfl ?_
  refine ev_aload_n (q := 9) dX4_copyFrom_8 rfl rfl ?_
  refine ev_aload_n (q := 10) dX4_copyFrom_9 rfl rfl ?_
  refine ev_get (q := 13) dX4_copyFrom_10 fr_X4_38 rfl (by omega) rfl rfl ?_
  first | refine ev_putIK (q := 16) dX4_copyFrom_13 fa_X4_38 rfl (by decide) (by omega) (Nat.le_of_ble_eq_true rfl) ⟨rfl, rfl⟩ rfl rfl rfl ?_ | refine ev_putIR (q := 16) dX4_copyFrom_13 fa_X4_38 rfl (by decide) (by omega) (Nat.le_of_ble_eq_true rfl) ⟨rfl, rfl⟩ rfl rfl rfl ?_
  refine ev_aload_n (q := 17) dX4_copyFrom_16 rfl rfl ?_
  refine ev_aload_n (q := 18) dX4_copyFrom_17 rfl rfl ?_
  refine ev_get (q := 21) dX4_copyFrom_18 fr_X4_41 rfl (by omega) rfl rfl ?_
  first | refine ev_putIK (q := 24) dX4_copyFrom_21 fa_X4_41 rfl (by decide) (by omega) (Nat.le_of_ble_eq_true rfl) ⟨rfl, rfl⟩ rfl rfl rfl ?_ | refine ev_putIR (q := 24) dX4_copyFrom_21 fa_X4_41 rfl (by decide) (by omega) (Nat.le_of_ble_eq_true rfl) ⟨rfl, rfl⟩ rfl rfl rfl ?_
  refine ev_aload_n (q := 25) dX4_copyFrom_24 rfl rfl ?_
  refine ev_aload_n (q := 26) dX4_copyFrom_25 rfl rfl ?_
  refine ev_get (q := 29) dX4_copyFrom_26 fr_X4_44 rfl (by omega) rfl rfl ?_
  first | refine ev_putIK (q := 32) dX4_copyFrom_29 fa_X4_44 rfl (by decide) (by omega) (Nat.le_of_ble_eq_true rfl) ⟨rfl, rfl⟩ rfl rfl rfl ?_ | refine ev_putIR (q := 32) dX4_copyFrom_29 fa_X4_44 rfl (by decide) (by omega) (Nat.le_of_ble_eq_true rfl) ⟨rfl, rfl⟩ rfl rfl rfl ?_
  refine ev_aload_n (q := 33) dX4_copyFrom_32 rfl rfl ?_
  refine ev_aload_n (q := 34) dX4_copyFrom_33 rfl rfl ?_
  refine ev_get (q := 37) dX4_copyFrom_34 fr_X4_47 rfl (by omega) rfl rfl ?_
  first | refine ev_putIK (q := 40) dX4_copyFrom_37 fa_X4_47 rfl (by decide) (by omega) (Nat.le_of_ble_eq_true rfl) ⟨rfl, rfl⟩ rfl rfl rfl ?_ | refine ev_putIR (q := 40) dX4_copyFrom_37 fa_X4_47 rfl (by decide) (by omega) (Nat.le_of_ble_eq_true rfl) ⟨rfl, rfl⟩ rfl rfl rfl ?_
  refine ev_aload_n (q := 41) dX4_copyFrom_40 rfl rfl ?_
  refine ev_aload_n (q := 42) dX4_copyFrom_41 rfl rfl ?_
  refine ev_get (q := 45) dX4_copyFrom_42 fr_X4_54 rfl (by omega) rfl rfl ?_
  refine ev_putJR (q := 48) dX4_copyFrom_45 fa_X4_54 rfl (by decide) (by omega) (Nat.le_of_ble_eq_true rfl) ⟨rfl, rfl⟩ rfl rfl rfl ?_
  refine ev_aload_n (q := 49) dX4_copyFrom_48 rfl rfl ?_
  refine ev_get (q := 52) dX4_copyFrom_49 fr_X4_9 rfl (by omega) rfl rfl ?_
  refine ev_iconst (q := 53) (0) dX4_copyFrom_52 (by decide) rfl ?_
  refine ev_aload_n (q := 54) dX4_copyFrom_53 rfl rfl ?_
  refine ev_get (q := 57) dX4_copyFrom_54 fr_X4_9 rfl (by omega) rfl rfl ?_
  refine ev_iconst (q := 58) (0) dX4_copyFrom_57 (by decide) rfl ?_
  refine ev_bipush (q := 60) (24) dX4_copyFrom_58 (by decide) rfl ?_
  refine ev_cpyI (q := 63) dX4_copyFrom_60 (tb_in (tt_2 218 rfl) rfl) rfl (by omega) rfl (by omega) (by decide) (by decide) (by decide) (by decide) (by decide) (by decide) (by decide) rfl ?_
  rw [ovI_r _ (fun _ => rfl)]
  refine ev_aload_n (q := 64) dX4_copyFrom_63 rfl rfl ?_
  refine ev_get (q := 67) dX4_copyFrom_64 fr_X4_15 rfl (by omega) rfl rfl ?_
  refine ev_iconst (q := 68) (0) dX4_copyFrom_67 (by decide) rfl ?_
  refine ev_aload_n (q := 69) dX4_copyFrom_68 rfl rfl ?_
  refine ev_get (q := 72) dX4_copyFrom_69 fr_X4_15 rfl (by omega) rfl rfl ?_
  refine ev_iconst (q := 73) (0) dX4_copyFrom_72 (by decide) rfl ?_
  refine ev_bipush (q := 75) (6) dX4_copyFrom_73 (by decide) rfl ?_
  refine ev_cpyI (q := 78) dX4_copyFrom_75 (tb_in (tt_2 218 rfl) rfl) rfl (by omega) rfl (by omega) (by decide) (by decide) (by decide) (by decide) (by decide) (by decide) (by decide) rfl ?_
  rw [ovI_r _ (fun _ => rfl)]
  refine ev_aload_n (q := 79) dX4_copyFrom_78 rfl rfl ?_
  refine ev_get (q := 82) dX4_copyFrom_79 fr_X4_18 rfl (by omega) rfl rfl ?_
  refine ev_iconst (q := 83) (0) dX4_copyFrom_82 (by decide) rfl ?_
  refine ev_aload_n (q := 84) dX4_copyFrom_83 rfl rfl ?_
  refine ev_get (q := 87) dX4_copyFrom_84 fr_X4_18 rfl (by omega) rfl rfl ?_
  refine ev_iconst (q := 88) (0) dX4_copyFrom_87 (by decide) rfl ?_
  refine ev_iconst (q := 89) (4) dX4_copyFrom_88 (by decide) rfl ?_
  refine ev_cpyI (q := 92) dX4_copyFrom_89 (tb_in (tt_2 218 rfl) rfl) rfl (by omega) rfl (by omega) (by decide) (by decide) (by decide) (by decide) (by decide) (by decide) (by decide) rfl ?_
  rw [ovI_r _ (fun _ => rfl)]
  refine ev_aload_n (q := 93) dX4_copyFrom_92 rfl rfl ?_
  refine ev_get (q := 96) dX4_copyFrom_93 fr_X4_21 rfl (by omega) rfl rfl ?_
  refine ev_iconst (q := 97) (0) dX4_copyFrom_96 (by decide) rfl ?_
  refine ev_aload_n (q := 98) dX4_copyFrom_97 rfl rfl ?_
  refine ev_get (q := 101) dX4_copyFrom_98 fr_X4_21 rfl (by omega) rfl rfl ?_
  refine ev_iconst (q := 102) (0) dX4_copyFrom_101 (by decide) rfl ?_
  refine ev_bipush (q := 104) (16) dX4_copyFrom_102 (by decide) rfl ?_
  refine ev_cpyI (q := 107) dX4_copyFrom_104 (tb_in (tt_2 218 rfl) rfl) rfl (by omega) rfl (by omega) (by decide) (by decide) (by decide) (by decide) (by decide) (by decide) (by decide) rfl ?_
  rw [ovI_r _ (fun _ => rfl)]
  refine ev_aload_n (q := 108) dX4_copyFrom_107 rfl rfl ?_
  refine ev_aload_n (q := 109) dX4_copyFrom_108 rfl rfl ?_
  refine ev_get (q := 112) dX4_copyFrom_109 fr_X4_58 rfl (by omega) rfl rfl ?_
  first | refine ev_putIK (q := 115) dX4_copyFrom_112 fa_X4_58 rfl (by decide) (by omega) (Nat.le_of_ble_eq_true rfl) ⟨rfl, rfl⟩ rfl rfl rfl ?_ | refine ev_putIR (q := 115) dX4_copyFrom_112 fa_X4_58 rfl (by decide) (by omega) (Nat.le_of_ble_eq_true rfl) ⟨rfl, rfl⟩ rfl rfl rfl ?_
  refine ev_aload_n (q := 116) dX4_copyFrom_115 rfl rfl ?_
  refine ev_get (q := 119) dX4_copyFrom_116 fr_X4_24 rfl (by omega) rfl rfl ?_
  refine ev_iconst (q := 120) (0) dX4_copyFrom_119 (by decide) rfl ?_
  refine ev_aload_n (q := 121) dX4_copyFrom_120 rfl rfl ?_
  refine ev_get (q := 124) dX4_copyFrom_121 fr_X4_24 rfl (by omega) rfl rfl ?_
  refine ev_iconst (q := 125) (0) dX4_copyFrom_124 (by decide) rfl ?_
  refine ev_bipush (q := 127) (12) dX4_copyFrom_125 (by decide) rfl ?_
  refine ev_cpyJ (q := 130) dX4_copyFrom_127 (tb_in (tt_2 218 rfl) rfl) rfl (by omega) rfl (by omega) (by decide) (by decide) (by decide) (by decide) (by decide) (by decide) (by decide) rfl ?_
  rw [ovJ_r _ rfl]
  refine ev_aload_n (q := 131) dX4_copyFrom_130 rfl rfl ?_
  refine ev_aload_n (q := 132) dX4_copyFrom_131 rfl rfl ?_
  refine ev_get (q := 135) dX4_copyFrom_132 fr_X4_64 rfl (by omega) rfl rfl ?_
  first | refine ev_putIK (q := 138) dX4_copyFrom_135 fa_X4_64 rfl (by decide) (by omega) (Nat.le_of_ble_eq_true rfl) ⟨rfl, rfl⟩ rfl rfl rfl ?_ | refine ev_putIR (q := 138) dX4_copyFrom_135 fa_X4_64 rfl (by decide) (by omega) (Nat.le_of_ble_eq_true rfl) ⟨rfl, rfl⟩ rfl rfl rfl ?_
  refine ev_aload_n (q := 139) dX4_copyFrom_138 rfl rfl ?_
  refine ev_get (q := 142) dX4_copyFrom_139 fr_X4_28 rfl (by omega) rfl rfl ?_
  refine ev_iconst (q := 143) (0) dX4_copyFrom_142 (by decide) rfl ?_
  refine ev_aload_n (q := 144) dX4_copyFrom_143 rfl rfl ?_
  refine ev_get (q := 147) dX4_copyFrom_144 fr_X4_28 rfl (by omega) rfl rfl ?_
  refine ev_iconst (q := 148) (0) dX4_copyFrom_147 (by decide) rfl ?_
  refine ev_bipush (q := 150) (6) dX4_copyFrom_148 (by decide) rfl ?_
  refine ev_cpyI (q := 153) dX4_copyFrom_150 (tb_in (tt_2 218 rfl) rfl) rfl (by omega) rfl (by omega) (by decide) (by decide) (by decide) (by decide) (by decide) (by decide) (by decide) rfl ?_
  rw [ovI_r _ (fun _ => rfl)]
  refine ev_aload_n (q := 154) dX4_copyFrom_153 rfl rfl ?_
  refine ev_get (q := 157) dX4_copyFrom_154 fr_X4_31 rfl (by omega) rfl rfl ?_
  refine ev_iconst (q := 158) (0) dX4_copyFrom_157 (by decide) rfl ?_
  refine ev_aload_n (q := 159) dX4_copyFrom_158 rfl rfl ?_
  refine ev_get (q := 162) dX4_copyFrom_159 fr_X4_31 rfl (by omega) rfl rfl ?_
  refine ev_iconst (q := 163) (0) dX4_copyFrom_162 (by decide) rfl ?_
  refine ev_bipush (q := 165) (6) dX4_copyFrom_163 (by decide) rfl ?_
  refine ev_cpyI (q := 168) dX4_copyFrom_165 (tb_in (tt_2 218 rfl) rfl) rfl (by omega) rfl (by omega) (by decide) (by decide) (by decide) (by decide) (by decide) (by decide) (by decide) rfl ?_
  rw [ovI_r _ (fun _ => rfl)]
  refine ev_aload_n (q := 169) dX4_copyFrom_168 rfl rfl ?_
  refine ev_aload_n (q := 170) dX4_copyFrom_169 rfl rfl ?_
  refine ev_get (q := 173) dX4_copyFrom_170 fr_X4_67 rfl (by omega) rfl rfl ?_
  first | refine ev_putIK (q := 176) dX4_copyFrom_173 fa_X4_67 rfl (by decide) (by omega) (Nat.le_of_ble_eq_true rfl) ⟨rfl, rfl⟩ rfl rfl rfl ?_ | refine ev_putIR (q := 176) dX4_copyFrom_173 fa_X4_67 rfl (by decide) (by omega) (Nat.le_of_ble_eq_true rfl) ⟨rfl, rfl⟩ rfl rfl rfl ?_
  exact ev_retE dX4_copyFrom_176 rfl rfl rfl (hQ _ _ _ _ ⟨rfl, rfl, fun p hp => ⟨by simp [setI, show p ≠ 49 by omega, show p ≠ 50 by omega, show p ≠ 51 by omega, show p ≠ 52 by omega, show p ≠ 53 by omega, show p ≠ 54 by omega, show p ≠ 55 by omega, show p ≠ 56 by omega], by simp [setJ, show p ≠ 49 by omega, show p ≠ 50 by omega, show p ≠ 51 by omega, show p ≠ 52 by omega, show p ≠ 53 by omega, show p ≠ 54 by omega, show p ≠ 55 by omega, show p ≠ 56 by omega]⟩, ⟨rfl, rfl, rfl, rfl, rfl, rfl, rfl, rfl⟩, rfl, fun j hj => (show va_cpy (I 2) (I 50) 0 0 24 j = I 2 j from cpy_z hj), fun j hj => (show va_cpy (I 3) (I 51) 0 0 6 j = I 3 j from cpy_z hj), fun j hj => (show va_cpy (I 4) (I 52) 0 0 4 j = I 4 j from cpy_z hj), fun j hj => (show va_cpy (I 5) (I 53) 0 0 16 j = I 5 j from cpy_z hj), fun j hj => (show va_cpy (J 6) (J 54) 0 0 12 j = J 6 j from cpy_z hj), fun j hj => (show va_cpy (I 7) (I 55) 0 0 6 j = I 7 j from cpy_z hj), fun j hj => (show va_cpy (I 8) (I 56) 0 0 6 j = I 8 j from cpy_z hj)⟩)
theorem k_copy_57_1 (hn : 65 ≤ n) : RnX xl xs 1 26 mX4_copyFrom [.ref 57, .ref 1] n I S J T X none (cpP 57 1 I S J T) := by
  intro Q hQ
  show Ev xl xs 1 26 0 0 mX4_copyFrom 0 [some (.ref 57), some (.ref 1)] [] n (sysH (ov I S) (ovJ J T) X) Q
  refine ev_aload_n (q := 1) dX4_copyFrom_0 rfl rfl ?_
  refine ev_aload_n (q := 2) dX4_copyFrom_1 rfl rfl ?_
  refine ev_get (q := 5) dX4_copyFrom_2 fr_X4_34 rfl (by omega) rfl rfl ?_
  first | refine ev_putIK (q := 8) dX4_copyFrom_5 fa_X4_34 rfl (by decide) (by omega) (Nat.le_of_ble_eq_true rfl) ⟨rfl, rfl⟩ rfl rfl rfl ?_ | refine ev_putIR (q := 8) dX4_copyFrom_5 fa_X4_34 rfl (by decide) (by omega) (Nat.le_of_ble_eq_true rfl) ⟨rfl, rfl⟩ rfl rfl rfl ?_
  refine ev_aload_n (q := 9) dX4_copyFrom_8 rfl rfl ?_
  refine ev_aload_n (q := 10) dX4_copyFrom_9 rfl rfl ?_
  refine ev_get (q := 13) dX4_copyFrom_10 fr_X4_38 rfl (by omega) rfl rfl ?_
  first | refine ev_putIK (q := 16) dX4_copyFrom_13 fa_X4_38 rfl (by decide) (by omega) (Nat.le_of_ble_eq_true rfl) ⟨rfl, rfl⟩ rfl rfl rfl ?_ | refine ev_putIR (q := 16) dX4_copyFrom_13 fa_X4_38 rfl (by decide) (by omega) (Nat.le_of_ble_eq_true rfl) ⟨rfl, rfl⟩ rfl rfl rfl ?_
  refine ev_aload_n (q := 17) dX4_copyFrom_16 rfl rfl ?_
  refine ev_aload_n (q := 18) dX4_copyFrom_17 rfl rfl ?_
  refine ev_get (q := 21) dX4_copyFrom_18 fr_X4_41 rfl (by omega) rfl rfl ?_
  first | refine ev_putIK (q := 24) dX4_copyFrom_21 fa_X4_41 rfl (by decide) (by omega) (Nat.le_of_ble_eq_true rfl) ⟨rfl, rfl⟩ rfl rfl rfl ?_ | refine ev_putIR (q := 24) dX4_copyFrom_21 fa_X4_41 rfl (by decide) (by omega) (Nat.le_of_ble_eq_true rfl) ⟨rfl, rfl⟩ rfl rfl rfl ?_
  refine ev_aload_n (q := 25) dX4_copyFrom_24 rfl rfl ?_
  refine ev_aload_n (q := 26) dX4_copyFrom_25 rfl rfl ?_
  refine ev_get (q := 29) dX4_copyFrom_26 fr_X4_44 rfl (by omega) rfl rfl ?_
  first | refine ev_putIK (q := 32) dX4_copyFrom_29 fa_X4_44 rfl (by decide) (by omega) (Nat.le_of_ble_eq_true rfl) ⟨rfl, rfl⟩ rfl rfl rfl ?_ | refine ev_putIR (q := 32) dX4_copyFrom_29 fa_X4_44 rfl (by decide) (by omega) (Nat.le_of_ble_eq_true rfl) ⟨rfl, rfl⟩ rfl rfl rfl ?_
  refine ev_aload_n (q := 33) dX4_copyFrom_32 rfl rfl ?_
  refine ev_aload_n (q := 34) dX4_copyFrom_33 rfl rfl ?_
  refine ev_get (q := 37) dX4_copyFrom_34 fr_X4_47 rfl (by omega) rfl rfl ?_
  first | refine ev_putIK (q := 40) dX4_copyFrom_37 fa_X4_47 rfl (by decide) (by omega) (Nat.le_of_ble_eq_true rfl) ⟨rfl, rfl⟩ rfl rfl rfl ?_ | refine ev_putIR (q := 40) dX4_copyFrom_37 fa_X4_47 rfl (by decide) (by omega) (Nat.le_of_ble_eq_true rfl) ⟨rfl, rfl⟩ rfl rfl rfl ?_
  refine ev_aload_n (q := 41) dX4_copyFrom_40 rfl rfl ?_
  refine ev_aload_n (q := 42) dX4_copyFrom_41 rfl rfl ?_
  refine ev_get (q := 45) dX4_copyFrom_42 fr_X4_54 rfl (by omega) rfl rfl ?_
  refine ev_putJR (q := 48) dX4_copyFrom_45 fa_X4_54 rfl (by decide) (by omega) (Nat.le_of_ble_eq_true rfl) ⟨rfl, rfl⟩ rfl rfl rfl ?_
  refine ev_aload_n (q := 49) dX4_copyFrom_48 rfl rfl ?_
  refine ev_get (q := 52) dX4_copyFrom_49 fr_X4_9 rfl (by omega) rfl rfl ?_
  refine ev_iconst (q := 53) (0) dX4_copyFrom_52 (by decide) rfl ?_
  refine ev_aload_n (q := 54) dX4_copyFrom_53 rfl rfl ?_
  refine ev_get (q := 57) dX4_copyFrom_54 fr_X4_9 rfl (by omega) rfl rfl ?_
  refine ev_iconst (q := 58) (0) dX4_copyFrom_57 (by decide) rfl ?_
  refine ev_bipush (q := 60) (24) dX4_copyFrom_58 (by decide) rfl ?_
  refine ev_cpyI (q := 63) dX4_copyFrom_60 (tb_in (tt_2 218 rfl) rfl) rfl (by omega) rfl (by omega) (by decide) (by decide) (by decide) (by decide) (by decide) (by decide) (by decide) rfl ?_
  rw [ovI_r _ (fun _ => rfl)]
  refine ev_aload_n (q := 64) dX4_copyFrom_63 rfl rfl ?_
  refine ev_get (q := 67) dX4_copyFrom_64 fr_X4_15 rfl (by omega) rfl rfl ?_
  refine ev_iconst (q := 68) (0) dX4_copyFrom_67 (by decide) rfl ?_
  refine ev_aload_n (q := 69) dX4_copyFrom_68 rfl rfl ?_
  refine ev_get (q := 72) dX4_copyFrom_69 fr_X4_15 rfl (by omega) rfl rfl ?_
  refine ev_iconst (q := 73) (0) dX4_copyFrom_72 (by decide) rfl ?_
  refine ev_bipush (q := 75) (6) dX4_copyFrom_73 (by decide) rfl ?_
  refine ev_cpyI (q := 78) dX4_copyFrom_75 (tb_in (tt_2 218 rfl) rfl) rfl (by omega) rfl (by omega) (by decide) (by decide) (by decide) (by decide) (by decide) (by decide) (by decide) rfl ?_
  rw [ovI_r _ (fun _ => rfl)]
  refine ev_aload_n (q := 79) dX4_copyFrom_78 rfl rfl ?_
  refine ev_get (q := 82) dX4_copyFrom_79 fr_X4_18 rfl (by omega) rfl rfl ?_
  refine ev_iconst (q := 83) (0) dX4_copyFrom_82 (by decide) rfl ?_
  refine ev_aload_n (q := 84) dX4_copyFrom_83 rfl rfl ?_
  refine ev_get (q := 87) dX4_copyFrom_84 fr_X4_18 rfl (by omega) rfl rfl ?_
  refine ev_iconst (q := 88) (0) dX4_copyFrom_87 (by decide) rfl ?_
  refine ev_iconst (q := 89) (4) dX4_copyFrom_88 (by decide) rfl ?_
  refine ev_cpyI (q := 92) dX4_copyFrom_89 (tb_in (tt_2 218 rfl) rfl) rfl (by omega) rfl (by omega) (by decide) (by decide) (by decide) (by decide) (by decide) (by decide) (by decide) rfl ?_
  rw [ovI_r _ (fun _ => rfl)]
  refine ev_aload_n (q := 93) dX4_copyFrom_92 rfl rfl ?_
  refine ev_get (q := 96) dX4_copyFrom_93 fr_X4_21 rfl (by omega) rfl rfl ?_
  refine ev_iconst (q := 97) (0) dX4_copyFrom_96 (by decide) rfl ?_
  refine ev_aload_n (q := 98) dX4_copyFrom_97 rfl rfl ?_
  refine ev_get (q := 101) dX4_copyFrom_98 fr_X4_21 rfl (by omega) rfl rfl ?_
  refine ev_iconst (q := 102) (0) dX4_copyFrom_101 (by decide) rfl ?_
  refine ev_bipush (q := 104) (16) dX4_copyFrom_102 (by decide) rfl ?_
  refine ev_cpyI (q := 107) dX4_copyFrom_104 (tb_in (tt_2 218 rfl) rfl) rfl (by omega) rfl (by omega) (by decide) (by decide) (by decide) (by decide) (by decide) (by decide) (by decide) rfl ?_
  rw [ovI_r _ (fun _ => rfl)]
  refine ev_aload_n (q := 108) dX4_copyFrom_107 rfl rfl ?_
  refine ev_aload_n (q := 109) dX4_copyFrom_108 rfl rfl ?_
  refine ev_get (q := 112) dX4_copyFrom_109 fr_X4_58 rfl (by omega) rfl rfl ?_
  first | refine ev_putIK (q := 115) dX4_copyFrom_112 fa_X4_58 rfl (by decide) (by omega) (Nat.le_of_ble_eq_true rfl) ⟨rfl, rfl⟩ rfl rfl rfl ?_ | refine ev_putIR (q := 115) dX4_copyFrom_112 fa_X4_58 rfl (by decide) (by omega) (Nat.le_of_ble_eq_true rfl) ⟨rfl, rfl⟩ rfl rfl rfl ?_
  refine ev_aload_n (q := 116) dX4_copyFrom_115 rfl rfl ?_
  refine ev_get (q := 119) dX4_copyFrom_116 fr_X4_24 rfl (by omega) rfl rfl ?_
  refine ev_iconst (q := 120) (0) dX4_copyFrom_119 (by decide) rfl ?_
  refine ev_aload_n (q := 121) dX4_copyFrom_120 rfl rfl ?_
  refine ev_get (q := 124) dX4_copyFrom_121 fr_X4_24 rfl (by omega) rfl rfl ?_
  refine ev_iconst (q := 125) (0) dX4_copyFrom_124 (by decide) rfl ?_
  refine ev_bipush (q := 127) (12) dX4_copyFrom_125 (by decide) rfl ?_
  refine ev_cpyJ (q := 130) dX4_copyFrom_127 (tb_in (tt_2 218 rfl) rfl) rfl (by omega) rfl (by omega) (by decide) (by decide) (by decide) (by decide) (by decide) (by decide) (by decide) rfl ?_
  rw [ovJ_r _ rfl]
  refine ev_aload_n (q := 131) dX4_copyFrom_130 rfl rfl ?_
  refine ev_aload_n (q := 132) dX4_copyFrom_131 rfl rfl ?_
  refine ev_get (q := 135) dX4_copyFrom_132 fr_X4_64 rfl (by omega) rfl rfl ?_
  first | refine ev_putIK (q := 138) dX4_copyFrom_135 fa_X4_64 rfl (by decide) (by omega) (Nat.le_of_ble_eq_true rfl) ⟨rfl, rfl⟩ rfl rfl rfl ?_ | refine ev_putIR (q := 138) dX4_copyFrom_135 fa_X4_64 rfl (by decide) (by omega) (Nat.le_of_ble_eq_true rfl) ⟨rfl, rfl⟩ rfl rfl rfl ?_
  refine ev_aload_n (q := 139) dX4_copyFrom_138 rfl rfl ?_
  refine ev_get (q := 142) dX4_copyFrom_139 fr_X4_28 rfl (by omega) rfl rfl ?_
  refine ev_iconst (q := 143) (0) dX4_copyFrom_142 (by decide) rfl ?_
  refine ev_aload_n (q := 144) dX4_copyFrom_143 rfl rfl ?_
  refine ev_get (q := 147) dX4_copyFrom_144 fr_X4_28 rfl (by omega) rfl rfl ?_
  refine ev_iconst (q := 148) (0) dX4_copyFrom_147 (by decide) rfl ?_
  refine ev_bipush (q := 150) (6) dX4_copyFrom_148 (by decide) rfl ?_
  refine ev_cpyI (q := 153) dX4_copyFrom_150 (tb_in (tt_2 218 rfl) rfl) rfl (by omega) rfl (by omega) (by decide) (by decide) (by decide) (by decide) (by decide) (by decide) (by decide) rfl ?_
  rw [ovI_r _ (fun _ => rfl)]
  refine ev_aload_n (q := 154) dX4_copyFrom_153 rfl rfl ?_
  refine ev_get (q := 157) dX4_copyFrom_154 fr_X4_31 rfl (by omega) rfl rfl ?_
  refine ev_iconst (q := 158) (0) dX4_copyFrom_157 (by decide) rfl ?_
  refine ev_aload_n (q := 159) dX4_copyFrom_158 rfl rfl ?_
  refine ev_get (q := 162) dX4_copyFrom_159 fr_X4_31 rfl (by omega) rfl rfl ?_
  refine ev_iconst (q := 163) (0) dX4_copyFrom_162 (by decide) rfl ?_
  refine ev_bipush (q := 165) (6) dX4_copyFrom_163 (by decide) rfl ?_
  refine ev_cpyI (q := 168) dX4_copyFrom_165 (tb_in (tt_2 218 rfl) rfl) rfl (by omega) rfl (by omega) (by decide) (by decide) (by decide) (by decide) (by decide) (by decide) (by decide) rfl ?_
  rw [ovI_r _ (fun _ => rfl)]
  refine ev_aload_n (q := 169) dX4_copyFrom_168 rfl rfl ?_
  refine ev_aload_n (q := 170) dX4_copyFrom_169 rfl rfl ?_
  refine ev_get (q := 173) dX4_copyFrom_170 fr_X4_67 rfl (by omega) rfl rfl ?_
  first | refine ev_putIK (q := 176) dX4_copyFrom_173 fa_X4_67 rfl (by decide) (by omega) (Nat.le_of_ble_eq_true rfl) ⟨rfl, rfl⟩ rfl rfl rfl ?_ | refine ev_putIR (q := 176) dX4_copyFrom_173 fa_X4_67 rfl (by decide) (by omega) (Nat.le_of_ble_eq_true rfl) ⟨rfl, rfl⟩ rfl rfl rfl ?_
  exact ev_retE dX4_copyFrom_176 rfl rfl rfl (hQ _ _ _ _ ⟨rfl, rfl, fun p hp => ⟨by simp [setI, show p ≠ 57 by omega, show p ≠ 58 by omega, show p ≠ 59 by omega, show p ≠ 60 by omega, show p ≠ 61 by omega, show p ≠ 62 by omega, show p ≠ 63 by omega, show p ≠ 64 by omega], by simp [setJ, show p ≠ 57 by omega, show p ≠ 58 by omega, show p ≠ 59 by omega, show p ≠ 60 by omega, show p ≠ 61 by omega, show p ≠ 62 by omega, show p ≠ 63 by omega, show p ≠ 64 by omega]⟩, ⟨rfl, rfl, rfl, rfl, rfl, rfl, rfl, rfl⟩, rfl, fun j hj => (show va_cpy (I 2) (I 58) 0 0 24 j = I 2 j from cpy_z hj), fun j hj => (show va_cpy (I 3) (I 59) 0 0 6 j = I 3 j from cpy_z hj), fun j hj => (show va_cpy (I 4) (I 60) 0 0 4 j = I 4 j from cpy_z hj), fun j hj => (show va_cpy (I 5) (I 61) 0 0 16 j = I 5 j from cpy_z hj), fun j hj => (show va_cpy (J 6) (J 62) 0 0 12 j = J 6 j from cpy_z hj), fun j hj => (show va_cpy (I 7) (I 63) 0 0 6 j = I 7 j from cpy_z hj), fun j hj => (show va_cpy (I 8) (I 64) 0 0 6 j = I 8 j from cpy_z hj)⟩)
theorem k_X6_image_f (hn : 49 ≤ n) {v : Int32} (hv : inb v 0 1 = false) : RnS xl xs 2 47 0 0 mX6_image [.ref 0, .int v] n I J X (some (.int (-2))) n I J X := by
  intro S T Q hQ
  have h1 := inb_cases hv
  have e2 : (2 : Int32).toInt = 2 := rfl
  show Ev xl xs 2 47 0 0 mX6_image 0 [some (.ref 0), some (.int v), none] [] n (sysH (ov I S) (ovJ J T) X) Q
  refine ev_iload_n (q := 1) dX6_image_0 rfl rfl ?_
  refine ev_if_lt (q := 4) 9 dX6_image_1 (by decide) rfl (fun c_1 => ?_) (fun c_1 => ?_)
  · refine ev_bipush (q := 11) (-2) dX6_image_9 (by decide) rfl ?_
    exact ev_iretE dX6_image_11 rfl rfl rfl rfl rfl (hQ _ _)
  · refine ev_iload_n (q := 5) dX6_image_4 rfl rfl ?_
    refine ev_iconst (q := 6) (2) dX6_image_5 (by decide) rfl ?_
    refine ev_icmp_lt (q := 9) 12 dX6_image_6 (by decide) rfl (fun c_6 => ?_) (fun c_6 => ?_)
    · (simp only [i_le, i_lt, e2, e_1i, e_0i] at *; omega)
    · refine ev_bipush (q := 11) (-2) dX6_image_9 (by decide) rfl ?_
      exact ev_iretE dX6_image_11 rfl rfl rfl rfl rfl (hQ _ _)
theorem k_X6_restore_f (hn : 49 ≤ n) {v : Int32} (hv : inb v 0 1 = false) : RnS xl xs 2 47 0 0 mX6_restore [.ref 0, .int v] n I J X (some (.int (-2))) n I J X := by
  intro S T Q hQ
  have h1 := inb_cases hv
  have e2 : (2 : Int32).toInt = 2 := rfl
  show Ev xl xs 2 47 0 0 mX6_restore 0 [some (.ref 0), some (.int v), none] [] n (sysH (ov I S) (ovJ J T) X) Q
  refine ev_iload_n (q := 1) dX6_restore_0 rfl rfl ?_
  refine ev_if_lt (q := 4) 9 dX6_restore_1 (by decide) rfl (fun c_1 => ?_) (fun c_1 => ?_)
  · refine ev_bipush (q := 11) (-2) dX6_restore_9 (by decide) rfl ?_
    exact ev_iretE dX6_restore_11 rfl rfl rfl rfl rfl (hQ _ _)
  · refine ev_iload_n (q := 5) dX6_restore_4 rfl rfl ?_
    refine ev_iconst (q := 6) (2) dX6_restore_5 (by decide) rfl ?_
    refine ev_icmp_lt (q := 9) 12 dX6_restore_6 (by decide) rfl (fun c_6 => ?_) (fun c_6 => ?_)
    · (simp only [i_le, i_lt, e2, e_1i, e_0i] at *; omega)
    · refine ev_bipush (q := 11) (-2) dX6_restore_9 (by decide) rfl ?_
      exact ev_iretE dX6_restore_11 rfl rfl rfl rfl rfl (hQ _ _)
theorem k_X6_restore_n (hn : 49 ≤ n) (h1 : nn < 2) (hX : X nn = none) : RnS xl xs 2 47 0 0 mX6_restore [.ref 0, .int (nI nn)] n I J X (some (.int (-3))) n I J X := by
  intro S T Q hQ
  show Ev xl xs 2 47 0 0 mX6_restore 0 [some (.ref 0), some (.int (nI nn)), none] [] n (sysH (ov I S) (ovJ J T) X) Q
  refine ev_iload_n (q := 1) dX6_restore_0 rfl rfl ?_
  refine ev_if_lt (q := 4) 9 dX6_restore_1 (by decide) rfl (fun c_1 => ?_) (fun c_1 => ?_)
  · exact absurd c_1 (nI_pos (by omega))
  · refine ev_iload_n (q := 5) dX6_restore_4 rfl rfl ?_
    refine ev_iconst (q := 6) (2) dX6_restore_5 (by decide) rfl ?_
    refine ev_icmp_lt (q := 9) 12 dX6_restore_6 (by decide) rfl (fun c_6 => ?_) (fun c_6 => ?_)
    · refine ev_aload_n (q := 13) dX6_restore_12 rfl rfl ?_
      refine ev_get (q := 16) dX6_restore_13 fr_X6_16 rfl (lt_n hn (by decide)) rfl rfl ?_
      refine ev_iload_n (q := 17) dX6_restore_16 rfl rfl ?_
      refine ev_aald (q := 18) dX6_restore_17 rfl (lt_n hn (by decide)) (vin h1 (by decide)) rfl ?_
      rw [nI_clamp (by omega), hX, show va_rf none = Value.null from rfl]
      refine ev_astNi_2 (q := 19) dX6_restore_18 rfl ?_
      refine ev_aload_nN (q := 20) dX6_restore_19 rfl rfl ?_
      refine ev_nonnullN (q := 23) dX6_restore_20 rfl ?_
      refine ev_bipush (q := 25) (-3) dX6_restore_23 (by decide) rfl ?_
      exact ev_iretE dX6_restore_25 rfl rfl rfl rfl rfl (hQ _ _)
    · exact absurd ((nI_ltI (b := 2) (by omega) (by omega)).mpr h1) c_6
def rsP (I : Nat → Nat → Int32) (J : Nat → Nat → Int64) (p m : Nat) (I' S' : Nat → Nat → Int32) (J' T' : Nat → Nat → Int64) : Prop := ∃ I1 S1 J1 T1, cpP 1 p I S1 J T1 I1 S1 J1 T1 ∧ (∀ q, q ≠ 16 → q ≠ 17 → q ≠ 18 → q ≠ 20 → I' q = I1 q) ∧ (∀ q, q ≠ 19 → J' q = J1 q) ∧ TOK I' J' m
theorem k_X6_restore_49 (hn : 57 ≤ n) (h1 : nn < 2) (hX : X nn = some 49) (hm : I 49 0 = nI m) (h2 : 2 ≤ m) (h6 : m ≤ 6) (ht : TOK I J t) (ht6 : t ≤ 6) : RnX xl xs 2 47 mX6_restore [.ref 0, .int (nI nn)] n I S J T X (some (.int 1)) (rsP I J 49 m) := by
  intro Q hQ
  have hn0 : 49 ≤ n := by omega
  show Ev xl xs 2 47 0 0 mX6_restore 0 [some (.ref 0), some (.int (nI nn)), none] [] n (sysH (ov I S) (ovJ J T) X) Q
  refine ev_iload_n (q := 1) dX6_restore_0 rfl rfl ?_
  refine ev_if_lt (q := 4) 9 dX6_restore_1 (by decide) rfl (fun c_1 => ?_) (fun c_1 => ?_)
  · exact absurd c_1 (nI_pos (by omega))
  · refine ev_iload_n (q := 5) dX6_restore_4 rfl rfl ?_
    refine ev_iconst (q := 6) (2) dX6_restore_5 (by decide) rfl ?_
    refine ev_icmp_lt (q := 9) 12 dX6_restore_6 (by decide) rfl (fun c_6 => ?_) (fun c_6 => ?_)
    · refine ev_aload_n (q := 13) dX6_restore_12 rfl rfl ?_
      refine ev_get (q := 16) dX6_restore_13 fr_X6_16 rfl (by omega) rfl rfl ?_
      refine ev_iload_n (q := 17) dX6_restore_16 rfl rfl ?_
      refine ev_aald (q := 18) dX6_restore_17 rfl (by omega) (vin h1 (by decide)) rfl ?_
      rw [nI_clamp (by omega), hX, show va_rf (some 49) = Value.ref 49 from rfl]
      refine ev_ast_2 (q := 19) dX6_restore_18 rfl rfl ?_
      refine ev_aload_n (q := 20) dX6_restore_19 rfl rfl ?_
      refine ev_nonnull 26 dX6_restore_20 (by decide) ?_
      refine ev_aload_n (q := 27) dX6_restore_26 rfl rfl ?_
      refine ev_get (q := 30) dX6_restore_27 fr_X6_10 rfl (by omega) rfl rfl ?_
      refine ev_aload_n (q := 31) dX6_restore_30 rfl rfl ?_
      refine ev_callV1vX (q := 34) dX6_restore_31 ca_X6_300 (k_copy_1_49 hn) rfl (by omega) rfl rfl (Nat.le_of_ble_eq_true rfl) (Nat.le_of_ble_eq_true rfl) (by decide) (by decide) rfl (fun I2 S J2 T hp_31 => ?_)
      have hcp := hp_31
      obtain ⟨d1, d2, d3, ⟨d4, -⟩, -⟩ := hp_31
      have hc : I2 16 0 = nI (3 ^ m) → TOK I2 J2 m := fun g => by
        have e16 := (d3 16 (by omega)).1
        have e17 := (d3 17 (by omega)).1
        have e18 := (d3 18 (by omega)).1
        have e20 := (d3 20 (by omega)).1
        have e19 := (d3 19 (by omega)).2
        rw [e16] at g
        have g1 := p3_le ht6
        have g2 := p3_le h6
        have e : 3 ^ t = 3 ^ m := (nI_eq (by omega) (by omega)).mp (ht.1.symm.trans g)
        have e : t = m := by
          rcases Nat.lt_trichotomy t m with h | h | h
          · have := Nat.pow_lt_pow_right (a := 3) (by decide) h; omega
          · exact h
          · have := Nat.pow_lt_pow_right (a := 3) (by decide) h; omega
        subst e
        unfold TOK at *
        rw [e16, e17, e18, e19, e20]
        exact ht
      refine ev_aload_n (q := 35) dX6_restore_34 rfl rfl ?_
      refine ev_get (q := 38) dX6_restore_35 fr_X6_33 rfl (by omega) rfl rfl ?_
      refine ev_aload_n (q := 39) dX6_restore_38 rfl rfl ?_
      refine ev_get (q := 42) dX6_restore_39 fr_X6_10 rfl (by omega) rfl rfl ?_
      refine ev_get (q := 45) dX6_restore_42 fr_X6_74 rfl (by omega) rfl rfl ?_
      rw [show ov I2 S 1 0 = nI m from d4.trans hm]
      refine ev_callV1vX (q := 48) dX6_restore_45 ca_X6_71 (b_listFor (by omega) h2 h6 hc) rfl (by omega) rfl rfl (Nat.le_of_ble_eq_true rfl) (Nat.le_of_ble_eq_true rfl) (by decide) (by decide) rfl (fun I2 S J2 T hp_45 => ?_)
      obtain ⟨-, -, f3, f4, f5⟩ := hp_45
      refine ev_iconst (q := 49) (1) dX6_restore_48 (by decide) rfl ?_
      exact ev_iretE dX6_restore_49 rfl rfl rfl rfl rfl (hQ _ _ _ _ ⟨_, _, _, _, cpP_st hcp, f3, f4, f5⟩)
    · exact absurd ((nI_ltI (b := 2) (by omega) (by omega)).mpr h1) c_6
theorem k_X6_restore_57 (hn : 65 ≤ n) (h1 : nn < 2) (hX : X nn = some 57) (hm : I 57 0 = nI m) (h2 : 2 ≤ m) (h6 : m ≤ 6) (ht : TOK I J t) (ht6 : t ≤ 6) : RnX xl xs 2 47 mX6_restore [.ref 0, .int (nI nn)] n I S J T X (some (.int 1)) (rsP I J 57 m) := by
  intro Q hQ
  have hn0 : 49 ≤ n := by omega
  show Ev xl xs 2 47 0 0 mX6_restore 0 [some (.ref 0), some (.int (nI nn)), none] [] n (sysH (ov I S) (ovJ J T) X) Q
  refine ev_iload_n (q := 1) dX6_restore_0 rfl rfl ?_
  refine ev_if_lt (q := 4) 9 dX6_restore_1 (by decide) rfl (fun c_1 => ?_) (fun c_1 => ?_)
  · exact absurd c_1 (nI_pos (by omega))
  · refine ev_iload_n (q := 5) dX6_restore_4 rfl rfl ?_
    refine ev_iconst (q := 6) (2) dX6_restore_5 (by decide) rfl ?_
    refine ev_icmp_lt (q := 9) 12 dX6_restore_6 (by decide) rfl (fun c_6 => ?_) (fun c_6 => ?_)
    · refine ev_aload_n (q := 13) dX6_restore_12 rfl rfl ?_
      refine ev_get (q := 16) dX6_restore_13 fr_X6_16 rfl (by omega) rfl rfl ?_
      refine ev_iload_n (q := 17) dX6_restore_16 rfl rfl ?_
      refine ev_aald (q := 18) dX6_restore_17 rfl (by omega) (vin h1 (by decide)) rfl ?_
      rw [nI_clamp (by omega), hX, show va_rf (some 57) = Value.ref 57 from rfl]
      refine ev_ast_2 (q := 19) dX6_restore_18 rfl rfl ?_
      refine ev_aload_n (q := 20) dX6_restore_19 rfl rfl ?_
      refine ev_nonnull 26 dX6_restore_20 (by decide) ?_
      refine ev_aload_n (q := 27) dX6_restore_26 rfl rfl ?_
      refine ev_get (q := 30) dX6_restore_27 fr_X6_10 rfl (by omega) rfl rfl ?_
      refine ev_aload_n (q := 31) dX6_restore_30 rfl rfl ?_
      refine ev_callV1vX (q := 34) dX6_restore_31 ca_X6_300 (k_copy_1_57 hn) rfl (by omega) rfl rfl (Nat.le_of_ble_eq_true rfl) (Nat.le_of_ble_eq_true rfl) (by decide) (by decide) rfl (fun I2 S J2 T hp_31 => ?_)
      have hcp := hp_31
      obtain ⟨d1, d2, d3, ⟨d4, -⟩, -⟩ := hp_31
      have hc : I2 16 0 = nI (3 ^ m) → TOK I2 J2 m := fun g => by
        have e16 := (d3 16 (by omega)).1
        have e17 := (d3 17 (by omega)).1
        have e18 := (d3 18 (by omega)).1
        have e20 := (d3 20 (by omega)).1
        have e19 := (d3 19 (by omega)).2
        rw [e16] at g
        have g1 := p3_le ht6
        have g2 := p3_le h6
        have e : 3 ^ t = 3 ^ m := (nI_eq (by omega) (by omega)).mp (ht.1.symm.trans g)
        have e : t = m := by
          rcases Nat.lt_trichotomy t m with h | h | h
          · have := Nat.pow_lt_pow_right (a := 3) (by decide) h; omega
          · exact h
          · have := Nat.pow_lt_pow_right (a := 3) (by decide) h; omega
        subst e
        unfold TOK at *
        rw [e16, e17, e18, e19, e20]
        exact ht
      refine ev_aload_n (q := 35) dX6_restore_34 rfl rfl ?_
      refine ev_get (q := 38) dX6_restore_35 fr_X6_33 rfl (by omega) rfl rfl ?_
      refine ev_aload_n (q := 39) dX6_restore_38 rfl rfl ?_
      refine ev_get (q := 42) dX6_restore_39 fr_X6_10 rfl (by omega) rfl rfl ?_
      refine ev_get (q := 45) dX6_restore_42 fr_X6_74 rfl (by omega) rfl rfl ?_
      rw [show ov I2 S 1 0 = nI m from d4.trans hm]
      refine ev_callV1vX (q := 48) dX6_restore_45 ca_X6_71 (b_listFor (by omega) h2 h6 hc) rfl (by omega) rfl rfl (Nat.le_of_ble_eq_true rfl) (Nat.le_of_ble_eq_true rfl) (by decide) (by decide) rfl (fun I2 S J2 T hp_45 => ?_)
      obtain ⟨-, -, f3, f4, f5⟩ := hp_45
      refine ev_iconst (q := 49) (1) dX6_restore_48 (by decide) rfl ?_
      exact ev_iretE dX6_restore_49 rfl rfl rfl rfl rfl (hQ _ _ _ _ ⟨_, _, _, _, cpP_st hcp, f3, f4, f5⟩)
    · exact absurd ((nI_ltI (b := 2) (by omega) (by omega)).mpr h1) c_6
theorem k_X6_image_49 (hn : 57 ≤ n) (h1 : nn < 2) (hX : X nn = some 49) : RnX xl xs 2 47 mX6_image [.ref 0, .int (nI nn)] n I S J T X (some (.int 1)) (fun I' _ J' _ => ∃ S1 T1, cpP 49 1 I S1 J T1 I' S1 J' T1) := by
  intro Q hQ
  show Ev xl xs 2 47 0 0 mX6_image 0 [some (.ref 0), some (.int (nI nn)), none] [] n (sysH (ov I S) (ovJ J T) X) Q
  refine ev_iload_n (q := 1) dX6_image_0 rfl rfl ?_
  refine ev_if_lt (q := 4) 9 dX6_image_1 (by decide) rfl (fun c_1 => ?_) (fun c_1 => ?_)
  · exact absurd c_1 (nI_pos (by omega))
  · refine ev_iload_n (q := 5) dX6_image_4 rfl rfl ?_
    refine ev_iconst (q := 6) (2) dX6_image_5 (by decide) rfl ?_
    refine ev_icmp_lt (q := 9) 12 dX6_image_6 (by decide) rfl (fun c_6 => ?_) (fun c_6 => ?_)
    · refine ev_aload_n (q := 13) dX6_image_12 rfl rfl ?_
      refine ev_get (q := 16) dX6_image_13 fr_X6_16 rfl (by omega) rfl rfl ?_
      refine ev_iload_n (q := 17) dX6_image_16 rfl rfl ?_
      refine ev_aald (q := 18) dX6_image_17 rfl (by omega) (vin h1 (by decide)) rfl ?_
      rw [nI_clamp (by omega), hX, show va_rf (some 49) = Value.ref 49 from rfl]
      refine ev_ast_2 (q := 19) dX6_image_18 rfl rfl ?_
      refine ev_aload_n (q := 20) dX6_image_19 rfl rfl ?_
      refine ev_nonnull 38 dX6_image_20 (by decide) ?_
      refine ev_aload_n (q := 39) dX6_image_38 rfl rfl ?_
      refine ev_aload_n (q := 40) dX6_image_39 rfl rfl ?_
      refine ev_get (q := 43) dX6_image_40 fr_X6_10 rfl (by omega) rfl rfl ?_
      refine ev_callV1vX (q := 46) dX6_image_43 ca_X6_300 (k_copy_49_1 hn) rfl (by omega) rfl rfl (Nat.le_of_ble_eq_true rfl) (Nat.le_of_ble_eq_true rfl) (by decide) (by decide) rfl (fun I2 S J2 T hp_43 => ?_)
      refine ev_iconst (q := 47) (1) dX6_image_46 (by decide) rfl ?_
      exact ev_iretE dX6_image_47 rfl rfl rfl rfl rfl (hQ _ _ _ _ ⟨_, _, cpP_st hp_43⟩)
    · exact absurd ((nI_ltI (b := 2) (by omega) (by omega)).mpr h1) c_6
theorem k_X6_image_new49 (h1 : nn < 2) (hX : X nn = none) (hz : ∀ q, 49 ≤ q → q < 49 + 8 → I q = fun _ => 0) (hj : J 49 5 = 0) (hj5 : J 54 = fun _ => 0) {Q : QT} (hQ : ∀ I' S' J' T', (∃ S1 T1, cpP 49 1 I S1 J T1 I' S1 J' T1) → Q (some (.int 1)) (49 + 8) (sysH (ov I' S') (ovJ J' T') (va_up X nn (some 49)))) : RnQ xl xs 2 47 8 90 mX6_image [.ref 0, .int (nI nn)] 49 (sysH (ov I S) (ovJ J T) X) Q := by
  show Ev xl xs 2 47 8 90 mX6_image 0 [some (.ref 0), some (.int (nI nn)), none] [] 49 (sysH (ov I S) (ovJ J T) X) Q
  have hi := i_X4 (xl := xl) (xs := xs) (b := 49) (h := (sysH (ov I S) (ovJ J T) X)) (by decide) (by show (Sum.inr (4, [.int (I 49 0), .int (I 49 1), .int (I 49 2), .int (I 49 3), .int (I 49 4), .long (J 49 5), .ref 50, .ref 51, .ref 52, .ref 53, .int (I 49 10), .ref 54, .int (I 49 12), .ref 55, .ref 56, .int (I 49 15)]) : PC) = _; rw [hz 49 (by omega) (by omega), hj]) (by show (Sum.inl (0, 24, Sum.inl (I 50)) : PC) = _; rw [hz 50 (by omega) (by omega)]) (by show (Sum.inl (0, 6, Sum.inl (I 51)) : PC) = _; rw [hz 51 (by omega) (by omega)]) (by show (Sum.inl (0, 4, Sum.inl (I 52)) : PC) = _; rw [hz 52 (by omega) (by omega)]) (by show (Sum.inl (0, 16, Sum.inl (I 53)) : PC) = _; rw [hz 53 (by omega) (by omega)]) (by show (Sum.inl (1, 12, Sum.inr (Sum.inl (J 54))) : PC) = _; rw [hj5]) (by show (Sum.inl (0, 6, Sum.inl (I 55)) : PC) = _; rw [hz 55 (by omega) (by omega)]) (by show (Sum.inl (0, 6, Sum.inl (I 56)) : PC) = _; rw [hz 56 (by omega) (by omega)])
  refine ev_iload_n (q := 1) dX6_image_0 rfl rfl ?_
  refine ev_if_lt (q := 4) 9 dX6_image_1 (by decide) rfl (fun c_1 => ?_) (fun c_1 => ?_)
  · exact absurd c_1 (nI_pos (by omega))
  · refine ev_iload_n (q := 5) dX6_image_4 rfl rfl ?_
    refine ev_iconst (q := 6) (2) dX6_image_5 (by decide) rfl ?_
    refine ev_icmp_lt (q := 9) 12 dX6_image_6 (by decide) rfl (fun c_6 => ?_) (fun c_6 => ?_)
    · refine ev_aload_n (q := 13) dX6_image_12 rfl rfl ?_
      refine ev_get (q := 16) dX6_image_13 fr_X6_16 rfl (by decide) rfl rfl ?_
      refine ev_iload_n (q := 17) dX6_image_16 rfl rfl ?_
      refine ev_aald (q := 18) dX6_image_17 rfl (by decide) (vin h1 (by decide)) rfl ?_
      rw [nI_clamp (by omega), hX, show va_rf none = Value.null from rfl]
      refine ev_astNi_2 (q := 19) dX6_image_18 rfl ?_
      refine ev_aload_nN (q := 20) dX6_image_19 rfl rfl ?_
      refine ev_nonnullN (q := 23) dX6_image_20 rfl ?_
      refine ev_new (q := 26) dX6_image_23 nc_X6_7 (by omega) (by decide) (by decide) rfl ?_
      refine ev_dup (q := 27) (fun _ => rfl) dX6_image_26 rfl ?_
      refine ev_callIn (q := 30) (As := []) (rest := [.ref 49]) dX6_image_27 ca_X6_9 rfl (Nat.le_of_ble_eq_true rfl) (Nat.le_of_ble_eq_true rfl) (by decide) (by decide) (by decide) (by decide) hi rfl ?_
      refine ev_ast_2 (q := 31) dX6_image_30 rfl rfl ?_
      refine ev_aload_n (q := 32) dX6_image_31 rfl rfl ?_
      refine ev_get (q := 35) dX6_image_32 fr_X6_16 rfl (by decide) rfl rfl ?_
      refine ev_iload_n (q := 36) dX6_image_35 rfl rfl ?_
      refine ev_aload_n (q := 37) dX6_image_36 rfl rfl ?_
      refine ev_aast (q := 38) dX6_image_37 (by first | rfl | assumption) (by first | assumption | omega) (by first | rfl | assumption) (by first | assumption | omega) (vin h1 (by decide)) rfl ?_
      rw [nI_clamp (by omega), sys_X9]
      refine ev_aload_n (q := 39) dX6_image_38 rfl rfl ?_
      refine ev_aload_n (q := 40) dX6_image_39 rfl rfl ?_
      refine ev_get (q := 43) dX6_image_40 fr_X6_10 rfl (by decide) rfl rfl ?_
      refine ev_callV1vX (q := 46) dX6_image_43 ca_X6_300 (k_copy_49_1 (by decide)) rfl (by decide) rfl rfl (Nat.le_of_ble_eq_true rfl) (Nat.le_of_ble_eq_true rfl) (by decide) (by decide) rfl (fun I2 S J2 T hp_43 => ?_)
      refine ev_iconst (q := 47) (1) dX6_image_46 (by decide) rfl ?_
      exact ev_iretE dX6_image_47 rfl rfl rfl rfl rfl (hQ _ _ _ _ ⟨_, _, cpP_st hp_43⟩)
    · exact absurd ((nI_ltI (b := 2) (by omega) (by omega)).mpr h1) c_6
theorem k_X6_image_57 (hn : 65 ≤ n) (h1 : nn < 2) (hX : X nn = some 57) : RnX xl xs 2 47 mX6_image [.ref 0, .int (nI nn)] n I S J T X (some (.int 1)) (fun I' _ J' _ => ∃ S1 T1, cpP 57 1 I S1 J T1 I' S1 J' T1) := by
  intro Q hQ
  show Ev xl xs 2 47 0 0 mX6_image 0 [some (.ref 0), some (.int (nI nn)), none] [] n (sysH (ov I S) (ovJ J T) X) Q
  refine ev_iload_n (q := 1) dX6_image_0 rfl rfl ?_
  refine ev_if_lt (q := 4) 9 dX6_image_1 (by decide) rfl (fun c_1 => ?_) (fun c_1 => ?_)
  · exact absurd c_1 (nI_pos (by omega))
  · refine ev_iload_n (q := 5) dX6_image_4 rfl rfl ?_
    refine ev_iconst (q := 6) (2) dX6_image_5 (by decide) rfl ?_
    refine ev_icmp_lt (q := 9) 12 dX6_image_6 (by decide) rfl (fun c_6 => ?_) (fun c_6 => ?_)
    · refine ev_aload_n (q := 13) dX6_image_12 rfl rfl ?_
      refine ev_get (q := 16) dX6_image_13 fr_X6_16 rfl (by omega) rfl rfl ?_
      refine ev_iload_n (q := 17) dX6_image_16 rfl rfl ?_
      refine ev_aald (q := 18) dX6_image_17 rfl (by omega) (vin h1 (by decide)) rfl ?_
      rw [nI_clamp (by omega), hX, show va_rf (some 57) = Value.ref 57 from rfl]
      refine ev_ast_2 (q := 19) dX6_image_18 rfl rfl ?_
      refine ev_aload_n (q := 20) dX6_image_19 rfl rfl ?_
      refine ev_nonnull 38 dX6_image_20 (by decide) ?_
      refine ev_aload_n (q := 39) dX6_image_38 rfl rfl ?_
      refine ev_aload_n (q := 40) dX6_image_39 rfl rfl ?_
      refine ev_get (q := 43) dX6_image_40 fr_X6_10 rfl (by omega) rfl rfl ?_
      refine ev_callV1vX (q := 46) dX6_image_43 ca_X6_300 (k_copy_57_1 hn) rfl (by omega) rfl rfl (Nat.le_of_ble_eq_true rfl) (Nat.le_of_ble_eq_true rfl) (by decide) (by decide) rfl (fun I2 S J2 T hp_43 => ?_)
      refine ev_iconst (q := 47) (1) dX6_image_46 (by decide) rfl ?_
      exact ev_iretE dX6_image_47 rfl rfl rfl rfl rfl (hQ _ _ _ _ ⟨_, _, cpP_st hp_43⟩)
    · exact absurd ((nI_ltI (b := 2) (by omega) (by omega)).mpr h1) c_6
theorem k_X6_image_new57 (h1 : nn < 2) (hX : X nn = none) (hz : ∀ q, 57 ≤ q → q < 57 + 8 → I q = fun _ => 0) (hj : J 57 5 = 0) (hj5 : J 62 = fun _ => 0) {Q : QT} (hQ : ∀ I' S' J' T', (∃ S1 T1, cpP 57 1 I S1 J T1 I' S1 J' T1) → Q (some (.int 1)) (57 + 8) (sysH (ov I' S') (ovJ J' T') (va_up X nn (some 57)))) : RnQ xl xs 2 47 8 90 mX6_image [.ref 0, .int (nI nn)] 57 (sysH (ov I S) (ovJ J T) X) Q := by
  show Ev xl xs 2 47 8 90 mX6_image 0 [some (.ref 0), some (.int (nI nn)), none] [] 57 (sysH (ov I S) (ovJ J T) X) Q
  have hi := i_X4 (xl := xl) (xs := xs) (b := 57) (h := (sysH (ov I S) (ovJ J T) X)) (by decide) (by show (Sum.inr (4, [.int (I 57 0), .int (I 57 1), .int (I 57 2), .int (I 57 3), .int (I 57 4), .long (J 57 5), .ref 58, .ref 59, .ref 60, .ref 61, .int (I 57 10), .ref 62, .int (I 57 12), .ref 63, .ref 64, .int (I 57 15)]) : PC) = _; rw [hz 57 (by omega) (by omega), hj]) (by show (Sum.inl (0, 24, Sum.inl (I 58)) : PC) = _; rw [hz 58 (by omega) (by omega)]) (by show (Sum.inl (0, 6, Sum.inl (I 59)) : PC) = _; rw [hz 59 (by omega) (by omega)]) (by show (Sum.inl (0, 4, Sum.inl (I 60)) : PC) = _; rw [hz 60 (by omega) (by omega)]) (by show (Sum.inl (0, 16, Sum.inl (I 61)) : PC) = _; rw [hz 61 (by omega) (by omega)]) (by show (Sum.inl (1, 12, Sum.inr (Sum.inl (J 62))) : PC) = _; rw [hj5]) (by show (Sum.inl (0, 6, Sum.inl (I 63)) : PC) = _; rw [hz 63 (by omega) (by omega)]) (by show (Sum.inl (0, 6, Sum.inl (I 64)) : PC) = _; rw [hz 64 (by omega) (by omega)])
  refine ev_iload_n (q := 1) dX6_image_0 rfl rfl ?_
  refine ev_if_lt (q := 4) 9 dX6_image_1 (by decide) rfl (fun c_1 => ?_) (fun c_1 => ?_)
  · exact absurd c_1 (nI_pos (by omega))
  · refine ev_iload_n (q := 5) dX6_image_4 rfl rfl ?_
    refine ev_iconst (q := 6) (2) dX6_image_5 (by decide) rfl ?_
    refine ev_icmp_lt (q := 9) 12 dX6_image_6 (by decide) rfl (fun c_6 => ?_) (fun c_6 => ?_)
    · refine ev_aload_n (q := 13) dX6_image_12 rfl rfl ?_
      refine ev_get (q := 16) dX6_image_13 fr_X6_16 rfl (by decide) rfl rfl ?_
      refine ev_iload_n (q := 17) dX6_image_16 rfl rfl ?_
      refine ev_aald (q := 18) dX6_image_17 rfl (by decide) (vin h1 (by decide)) rfl ?_
      rw [nI_clamp (by omega), hX, show va_rf none = Value.null from rfl]
      refine ev_astNi_2 (q := 19) dX6_image_18 rfl ?_
      refine ev_aload_nN (q := 20) dX6_image_19 rfl rfl ?_
      refine ev_nonnullN (q := 23) dX6_image_20 rfl ?_
      refine ev_new (q := 26) dX6_image_23 nc_X6_7 (by omega) (by decide) (by decide) rfl ?_
      refine ev_dup (q := 27) (fun _ => rfl) dX6_image_26 rfl ?_
      refine ev_callIn (q := 30) (As := []) (rest := [.ref 57]) dX6_image_27 ca_X6_9 rfl (Nat.le_of_ble_eq_true rfl) (Nat.le_of_ble_eq_true rfl) (by decide) (by decide) (by decide) (by decide) hi rfl ?_
      refine ev_ast_2 (q := 31) dX6_image_30 rfl rfl ?_
      refine ev_aload_n (q := 32) dX6_image_31 rfl rfl ?_
      refine ev_get (q := 35) dX6_image_32 fr_X6_16 rfl (by decide) rfl rfl ?_
      refine ev_iload_n (q := 36) dX6_image_35 rfl rfl ?_
      refine ev_aload_n (q := 37) dX6_image_36 rfl rfl ?_
      refine ev_aast (q := 38) dX6_image_37 (by first | rfl | assumption) (by first | assumption | omega) (by first | rfl | assumption) (by first | assumption | omega) (vin h1 (by decide)) rfl ?_
      rw [nI_clamp (by omega), sys_X9]
      refine ev_aload_n (q := 39) dX6_image_38 rfl rfl ?_
      refine ev_aload_n (q := 40) dX6_image_39 rfl rfl ?_
      refine ev_get (q := 43) dX6_image_40 fr_X6_10 rfl (by decide) rfl rfl ?_
      refine ev_callV1vX (q := 46) dX6_image_43 ca_X6_300 (k_copy_57_1 (by decide)) rfl (by decide) rfl rfl (Nat.le_of_ble_eq_true rfl) (Nat.le_of_ble_eq_true rfl) (by decide) (by decide) rfl (fun I2 S J2 T hp_43 => ?_)
      refine ev_iconst (q := 47) (1) dX6_image_46 (by decide) rfl ?_
      exact ev_iretE dX6_image_47 rfl rfl rfl rfl rfl (hQ _ _ _ _ ⟨_, _, cpP_st hp_43⟩)
    · exact absurd ((nI_ltI (b := 2) (by omega) (by omega)).mpr h1) c_6
end CLS17
