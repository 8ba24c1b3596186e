def Z0 : Nat → Nat → Int32 := fun p j => bif (p == 33 && j == 0) then 4 else 0
def ZJ : Nat → Nat → Int64 := fun _ _ => 0
def NX : Nat → Option Nat := fun _ => none
def H0 : Nat → PC := sysH (ov Z0 Z0) (ovJ ZJ ZJ) NX
section CLS18
variable {xl : Nat} {xs : Nat → Int32} {n : Nat} {h : Nat → PC} {I S : Nat → Nat → Int32} {J T : Nat → Nat → Int64} {X : Nat → Option Nat}
theorem i_X6 {Q : QT} (hQ : ∀ I' J', thP Z0 ZJ 4 I' Z0 J' ZJ → Q none 33 (sysH (ov I' Z0) (ovJ J' ZJ) NX)) : RnQ xl xs 3 62 32 3073 mX6_init [.ref 0] 1 (hup H0 0 (.inr (6, dX6))) Q := by
  show Ev xl xs 3 62 32 3073 mX6_init 0 [some (.ref 0)] [] 1 (hup H0 0 (.inr (6, dX6))) Q
  have z9 : H0 9 = .inl (3, 2, .inr (.inr (.inr (.inr (fun _ => none))))) := rfl
  have z31 : H0 31 = .inl (0, 64, .inl (fun _ => 0)) := rfl
  have z32 : H0 32 = .inl (0, 64, .inl (fun _ => 0)) := rfl
  refine ev_aload_n (q := 1) dX6_init_0 rfl rfl ?_
  refine ev_obj (q := 4) dX6_init_1 (tb_in (tt_1 17 rfl) rfl) w_oi w_oc (by decide) (by decide) rfl ?_
  refine ev_aload_n (q := 5) dX6_init_4 rfl rfl ?_
  refine ev_new (q := 8) dX6_init_5 nc_X6_7 (by omega) (by decide) (by decide) rfl ?_
  refine ev_dup (q := 9) (fun _ => rfl) dX6_init_8 rfl ?_
  refine ev_callIn (q := 12) (As := []) (rest := [.ref 1, .ref 0]) dX6_init_9 ca_X6_9 rfl (Nat.le_of_ble_eq_true rfl) (Nat.le_of_ble_eq_true rfl) (by decide) (by decide) (by decide) (by decide) (i_X4 (b := 1) (h := hup H0 0 (.inr (6, dX6))) (by decide) rfl rfl rfl rfl rfl rfl rfl rfl) rfl ?_
  refine ev_putF (q := 15) dX6_init_12 fa_X6_10 rfl hup_at (by decide) (Nat.le_of_ble_eq_true rfl) (fun _ => ⟨rfl, rfl⟩) rfl ?_
  rw [hup_set]
  refine ev_aload_n (q := 16) dX6_init_15 rfl rfl ?_
  refine ev_iconst (q := 17) (2) dX6_init_16 (by decide) rfl ?_
  refine ev_newA (q := 20) (N' := 2) dX6_init_17 (tb_in (tt_1 20 rfl) rfl) (by decide) (by decide) (by decide) (by omega) (by decide) (by decide) rfl ?_
  rw [show (1 + 8 : Nat) = 9 from rfl, hup_new z9 (by decide)]
  refine ev_putF (q := 23) dX6_init_20 fa_X6_16 rfl hup_at (by decide) (Nat.le_of_ble_eq_true rfl) (fun _ => ⟨rfl, rfl⟩) rfl ?_
  rw [hup_set]
  refine ev_aload_n (q := 24) dX6_init_23 rfl rfl ?_
  refine ev_new (q := 27) dX6_init_24 nc_X6_20 (by omega) (by decide) (by decide) rfl ?_
  refine ev_dup (q := 28) (fun _ => rfl) dX6_init_27 rfl ?_
  refine ev_callIn (q := 31) (As := []) (rest := [.ref 10, .ref 0]) dX6_init_28 ca_X6_22 rfl (Nat.le_of_ble_eq_true rfl) (Nat.le_of_ble_eq_true rfl) (by decide) (by decide) (by decide) (by decide) (i_X1 (b := 10) (h := hup H0 0 _) (by decide) (by rfl) (by rfl) (by rfl)) rfl ?_
  refine ev_putF (q := 34) dX6_init_31 fa_X6_23 rfl hup_at (by decide) (Nat.le_of_ble_eq_true rfl) (fun _ => ⟨rfl, rfl⟩) rfl ?_
  rw [hup_set]
  refine ev_aload_n (q := 35) dX6_init_34 rfl rfl ?_
  refine ev_new (q := 38) dX6_init_35 nc_X6_20 (by omega) (by decide) (by decide) rfl ?_
  refine ev_dup (q := 39) (fun _ => rfl) dX6_init_38 rfl ?_
  refine ev_callIn (q := 42) (As := []) (rest := [.ref 13, .ref 0]) dX6_init_39 ca_X6_22 rfl (Nat.le_of_ble_eq_true rfl) (Nat.le_of_ble_eq_true rfl) (by decide) (by decide) (by decide) (by decide) (i_X1 (b := 13) (h := hup H0 0 _) (by decide) (by rfl) (by rfl) (by rfl)) rfl ?_
  refine ev_putF (q := 45) dX6_init_42 fa_X6_27 rfl hup_at (by decide) (Nat.le_of_ble_eq_true rfl) (fun _ => ⟨rfl, rfl⟩) rfl ?_
  rw [hup_set]
  refine ev_aload_n (q := 46) dX6_init_45 rfl rfl ?_
  refine ev_new (q := 49) dX6_init_46 nc_X6_30 (by omega) (by decide) (by decide) rfl ?_
  refine ev_dup (q := 50) (fun _ => rfl) dX6_init_49 rfl ?_
  refine ev_callIn (q := 53) (As := []) (rest := [.ref 16, .ref 0]) dX6_init_50 ca_X6_32 rfl (Nat.le_of_ble_eq_true rfl) (Nat.le_of_ble_eq_true rfl) (by decide) (by decide) (by decide) (by decide) (i_X5 (b := 16) (h := hup H0 0 _) (by decide) (by rfl) (by rfl) (by rfl) (by rfl) (by rfl)) rfl ?_
  refine ev_putF (q := 56) dX6_init_53 fa_X6_33 rfl hup_at (by decide) (Nat.le_of_ble_eq_true rfl) (fun _ => ⟨rfl, rfl⟩) rfl ?_
  rw [hup_set]
  refine ev_aload_n (q := 57) dX6_init_56 rfl rfl ?_
  refine ev_new (q := 60) dX6_init_57 nc_X6_37 (by omega) (by decide) (by decide) rfl ?_
  refine ev_dup (q := 61) (fun _ => rfl) dX6_init_60 rfl ?_
  refine ev_aload_n (q := 62) dX6_init_61 rfl rfl ?_
  refine ev_get (q := 65) dX6_init_62 fr_X6_10 rfl (by decide) rfl rfl ?_
  refine ev_aload_n (q := 66) dX6_init_65 rfl rfl ?_
  refine ev_get (q := 69) dX6_init_66 fr_X6_33 rfl (by decide) rfl rfl ?_
  refine ev_callI (q := 72) (As := [.ref 1, .ref 16]) (rest := [.ref 21, .ref 0]) dX6_init_69 ca_X6_39 rfl (Nat.le_of_ble_eq_true rfl) (Nat.le_of_ble_eq_true rfl) (by decide) (by decide) (by decide) (by decide) (i_X3 (b := 21) (s := 1) (t := 16) (h := hup H0 0 _) (by decide) (by rfl) (by rfl) (by rfl)) rfl ?_
  refine ev_putF (q := 75) dX6_init_72 fa_X6_42 rfl hup_at (by decide) (Nat.le_of_ble_eq_true rfl) (fun _ => ⟨rfl, rfl⟩) rfl ?_
  rw [hup_set]
  refine ev_aload_n (q := 76) dX6_init_75 rfl rfl ?_
  refine ev_new (q := 79) dX6_init_76 nc_X6_46 (by omega) (by decide) (by decide) rfl ?_
  refine ev_dup (q := 80) (fun _ => rfl) dX6_init_79 rfl ?_
  refine ev_aload_n (q := 81) dX6_init_80 rfl rfl ?_
  refine ev_get (q := 84) dX6_init_81 fr_X6_10 rfl (by decide) rfl rfl ?_
  refine ev_aload_n (q := 85) dX6_init_84 rfl rfl ?_
  refine ev_get (q := 88) dX6_init_85 fr_X6_33 rfl (by decide) rfl rfl ?_
  refine ev_callI (q := 91) (As := [.ref 1, .ref 16]) (rest := [.ref 24, .ref 0]) dX6_init_88 ca_X6_48 rfl (Nat.le_of_ble_eq_true rfl) (Nat.le_of_ble_eq_true rfl) (by decide) (by decide) (by decide) (by decide) (i_X2 (b := 24) (s := 1) (t := 16) (h := hup H0 0 _) (by decide) (by rfl) (by rfl) (by rfl) (by rfl) (by rfl) (by rfl)) rfl ?_
  refine ev_putF (q := 94) dX6_init_91 fa_X6_49 rfl hup_at (by decide) (Nat.le_of_ble_eq_true rfl) (fun _ => ⟨rfl, rfl⟩) rfl ?_
  rw [hup_set]
  refine ev_aload_n (q := 95) dX6_init_94 rfl rfl ?_
  refine ev_new (q := 98) dX6_init_95 nc_X6_53 (by omega) (by decide) (by decide) rfl ?_
  refine ev_dup (q := 99) (fun _ => rfl) dX6_init_98 rfl ?_
  refine ev_callIn (q := 102) (As := []) (rest := [.ref 30, .ref 0]) dX6_init_99 ca_X6_55 rfl (Nat.le_of_ble_eq_true rfl) (Nat.le_of_ble_eq_true rfl) (by decide) (by decide) (by decide) (by decide) (i_X0 (b := 30)) rfl ?_
  refine ev_heap (h2 := hup H0 0 _) (hup_new (show H0 30 = _ from rfl) (by decide)) ?_
  refine ev_putF (q := 105) dX6_init_102 fa_X6_56 rfl hup_at (by decide) (Nat.le_of_ble_eq_true rfl) (fun _ => ⟨rfl, rfl⟩) rfl ?_
  rw [hup_set]
  refine ev_aload_n (q := 106) dX6_init_105 rfl rfl ?_
  refine ev_bipush (q := 108) (64) dX6_init_106 (by decide) rfl ?_
  refine ev_newI (q := 110) (N' := 64) dX6_init_108 w_acI (by decide) (by decide) (by decide) (by omega) (by decide) (by decide) rfl ?_
  refine ev_heap (h2 := hup H0 0 _) (hup_new z31 (by decide)) ?_
  refine ev_putF (q := 113) dX6_init_110 fa_X6_60 rfl hup_at (by decide) (Nat.le_of_ble_eq_true rfl) (fun _ => ⟨rfl, rfl⟩) rfl ?_
  rw [hup_set]
  refine ev_aload_n (q := 114) dX6_init_113 rfl rfl ?_
  refine ev_bipush (q := 116) (64) dX6_init_114 (by decide) rfl ?_
  refine ev_newI (q := 118) (N' := 64) dX6_init_116 w_acI (by decide) (by decide) (by decide) (by omega) (by decide) (by decide) rfl ?_
  refine ev_heap (h2 := hup H0 0 _) (hup_new z32 (by decide)) ?_
  refine ev_putF (q := 121) dX6_init_118 fa_X6_64 rfl hup_at (by decide) (Nat.le_of_ble_eq_true rfl) (fun _ => ⟨rfl, rfl⟩) rfl ?_
  rw [hup_set]
  refine ev_heap (h2 := sysH (ov Z0 Z0) (ovJ ZJ ZJ) NX) (hup_id (h := H0) rfl) ?_
  refine ev_aload_n (q := 122) dX6_init_121 rfl rfl ?_
  refine ev_get (q := 125) dX6_init_122 fr_X6_10 rfl (by decide) rfl rfl ?_
  refine ev_iconst (q := 126) (4) dX6_init_125 (by decide) rfl ?_
  refine ev_callV1v (q := 129) dX6_init_126 ca_X6_67 (b_begin (m := 4) (by decide) (by decide)) rfl (by decide) rfl rfl (Nat.le_of_ble_eq_true rfl) (Nat.le_of_ble_eq_true rfl) (by decide) (by decide) rfl ?_
  refine ev_aload_n (q := 130) dX6_init_129 rfl rfl ?_
  refine ev_get (q := 133) dX6_init_130 fr_X6_33 rfl (by decide) rfl rfl ?_
  refine ev_iconst (q := 134) (4) dX6_init_133 (by decide) rfl ?_
  refine ev_callV1vX (q := 137) dX6_init_134 ca_X6_71 (b_listFor (m := 4) (by decide) (by decide) (by decide) (fun g => absurd g (by decide))) rfl (by decide) rfl rfl (Nat.le_of_ble_eq_true rfl) (Nat.le_of_ble_eq_true rfl) (by decide) (by decide) rfl (fun I2 S J2 T hp_134 => ?_)
  obtain ⟨e1, e2, d3, d4, d5⟩ := hp_134
  subst e1 e2
  exact ev_retE dX6_init_137 rfl rfl rfl (hQ _ _ ⟨d3, d4, d5⟩)
theorem i_X7 {Q : QT} (h0 : h 33 = .inr (7, [.int 4, .ref 34, .ref 35, .ref 36, .int 0, .int 0, .int 0, .int 0, .long 0, .int 0, .ref 37, .int 0, .ref 38, .ref 39, .int 0, .ref 40, .int 0, .ref 41, .int 0, .ref 42, .ref 43, .int 0, .int 0, .ref 44, .ref 45, .int 0, .ref 46, .ref 47, .ref 48])) (h1 : h 34 = .inl (0, 24, .inl (fun _ => 0))) (h2 : h 35 = .inl (0, 6, .inl (fun _ => 0))) (h3 : h 36 = .inl (0, 4, .inl (fun _ => 0))) (h4 : h 37 = .inl (0, 16, .inl (fun _ => 0))) (h5 : h 38 = .inl (1, 6, .inr (.inl (fun _ => 0)))) (h6 : h 39 = .inl (0, 6, .inl (fun _ => 0))) (h7 : h 40 = .inl (0, 12, .inl (fun _ => 0))) (h8 : h 41 = .inl (0, 40, .inl (fun _ => 0))) (h9 : h 42 = .inl (0, 40, .inl (fun _ => 0))) (h10 : h 43 = .inl (2, 40, .inl (fun _ => 0))) (h11 : h 44 = .inl (0, 64, .inl (fun _ => 0))) (h12 : h 45 = .inl (0, 64, .inl (fun _ => 0))) (h13 : h 46 = .inl (0, 200, .inl (fun _ => 0))) (h14 : h 47 = .inl (1, 14, .inr (.inl (fun _ => 0)))) (h15 : h 48 = .inl (2, 2, .inl (fun _ => 0))) (k : Ev xl xs 3 61 0 0 mX7_init 128 [some (.ref 33)] [] 49 h Q) : RnQ xl xs 3 61 15 538 mX7_init [.ref 33] 34 (hup h 33 (.inr (7, dX7))) Q := by
  show Ev xl xs 3 61 15 538 mX7_init 0 [some (.ref 33)] [] 34 (hup h 33 (.inr (7, dX7))) Q
  refine ev_aload_n (q := 1) dX7_init_0 rfl rfl ?_
  refine ev_obj (q := 4) dX7_init_1 (tb_in (tt_3 215 rfl) rfl) w_oi w_oc (by decide) (by decide) rfl ?_
  refine ev_aload_n (q := 5) dX7_init_4 rfl rfl ?_
  refine ev_iconst (q := 6) (4) dX7_init_5 (by decide) rfl ?_
  refine ev_put (q := 9) dX7_init_6 fa_X7_7 hup_at (by decide) (Nat.le_of_ble_eq_true rfl) (fun _ => ⟨rfl, rfl⟩) rfl ?_
  rw [hup_set]
  refine ev_aload_n (q := 10) dX7_init_9 rfl rfl ?_
  refine ev_bipush (q := 12) (24) dX7_init_10 (by decide) rfl ?_
  refine ev_newI (q := 14) (N' := 24) dX7_init_12 w_acI (by decide) (by decide) (by decide) (by omega) (by decide) (by decide) rfl ?_
  refine ev_heap (h2 := hup h 33 _) (hup_new h1 (by decide)) ?_
  refine ev_putF (q := 17) dX7_init_14 fa_X7_13 rfl hup_at (by decide) (Nat.le_of_ble_eq_true rfl) (fun _ => ⟨rfl, rfl⟩) rfl ?_
  rw [hup_set]
  refine ev_aload_n (q := 18) dX7_init_17 rfl rfl ?_
  refine ev_bipush (q := 20) (6) dX7_init_18 (by decide) rfl ?_
  refine ev_newI (q := 22) (N' := 6) dX7_init_20 w_acI (by decide) (by decide) (by decide) (by omega) (by decide) (by decide) rfl ?_
  refine ev_heap (h2 := hup h 33 _) (hup_new h2 (by decide)) ?_
  refine ev_putF (q := 25) dX7_init_22 fa_X7_17 rfl hup_at (by decide) (Nat.le_of_ble_eq_true rfl) (fun _ => ⟨rfl, rfl⟩) rfl ?_
  rw [hup_set]
  refine ev_aload_n (q := 26) dX7_init_25 rfl rfl ?_
  refine ev_iconst (q := 27) (4) dX7_init_26 (by decide) rfl ?_
  refine ev_newI (q := 29) (N' := 4) dX7_init_27 w_acI (by decide) (by decide) (by decide) (by omega) (by decide) (by decide) rfl ?_
  refine ev_heap (h2 := hup h 33 _) (hup_new h3 (by decide)) ?_
  refine ev_putF (q := 32) dX7_init_29 fa_X7_20 rfl hup_at (by decide) (Nat.le_of_ble_eq_true rfl) (fun _ => ⟨rfl, rfl⟩) rfl ?_
  rw [hup_set]
  refine ev_aload_n (q := 33) dX7_init_32 rfl rfl ?_
  refine ev_bipush (q := 35) (16) dX7_init_33 (by decide) rfl ?_
  refine ev_newI (q := 37) (N' := 16) dX7_init_35 w_acI (by decide) (by decide) (by decide) (by omega) (by decide) (by decide) rfl ?_
  refine ev_heap (h2 := hup h 33 _) (hup_new h4 (by decide)) ?_
  refine ev_putF (q := 40) dX7_init_37 fa_X7_23 rfl hup_at (by decide) (Nat.le_of_ble_eq_true rfl) (fun _ => ⟨rfl, rfl⟩) rfl ?_
  rw [hup_set]
  refine ev_aload_n (q := 41) dX7_init_40 rfl rfl ?_
  refine ev_bipush (q := 43) (6) dX7_init_41 (by decide) rfl ?_
  refine ev_newJ (q := 45) (N' := 6) dX7_init_43 w_acJ (by decide) (by decide) (by decide) (by omega) (by decide) (by decide) rfl ?_
  refine ev_heap (h2 := hup h 33 _) (hup_new h5 (by decide)) ?_
  refine ev_putF (q := 48) dX7_init_45 fa_X7_26 rfl hup_at (by decide) (Nat.le_of_ble_eq_true rfl) (fun _ => ⟨rfl, rfl⟩) rfl ?_
  rw [hup_set]
  refine ev_aload_n (q := 49) dX7_init_48 rfl rfl ?_
  refine ev_bipush (q := 51) (6) dX7_init_49 (by decide) rfl ?_
  refine ev_newI (q := 53) (N' := 6) dX7_init_51 w_acI (by decide) (by decide) (by decide) (by omega) (by decide) (by decide) rfl ?_
  refine ev_heap (h2 := hup h 33 _) (hup_new h6 (by decide)) ?_
  refine ev_putF (q := 56) dX7_init_53 fa_X7_30 rfl hup_at (by decide) (Nat.le_of_ble_eq_true rfl) (fun _ => ⟨rfl, rfl⟩) rfl ?_
  rw [hup_set]
  refine ev_aload_n (q := 57) dX7_init_56 rfl rfl ?_
  refine ev_bipush (q := 59) (12) dX7_init_57 (by decide) rfl ?_
  refine ev_newI (q := 61) (N' := 12) dX7_init_59 w_acI (by decide) (by decide) (by decide) (by omega) (by decide) (by decide) rfl ?_
  refine ev_heap (h2 := hup h 33 _) (hup_new h7 (by decide)) ?_
  refine ev_putF (q := 64) dX7_init_61 fa_X7_33 rfl hup_at (by decide) (Nat.le_of_ble_eq_true rfl) (fun _ => ⟨rfl, rfl⟩) rfl ?_
  rw [hup_set]
  refine ev_aload_n (q := 65) dX7_init_64 rfl rfl ?_
  refine ev_bipush (q := 67) (40) dX7_init_65 (by decide) rfl ?_
  refine ev_newI (q := 69) (N' := 40) dX7_init_67 w_acI (by decide) (by decide) (by decide) (by omega) (by decide) (by decide) rfl ?_
  refine ev_heap (h2 := hup h 33 _) (hup_new h8 (by decide)) ?_
  refine ev_putF (q := 72) dX7_init_69 fa_X7_36 rfl hup_at (by decide) (Nat.le_of_ble_eq_true rfl) (fun _ => ⟨rfl, rfl⟩) rfl ?_
  rw [hup_set]
  refine ev_aload_n (q := 73) dX7_init_72 rfl rfl ?_
  refine ev_bipush (q := 75) (40) dX7_init_73 (by decide) rfl ?_
  refine ev_newI (q := 77) (N' := 40) dX7_init_75 w_acI (by decide) (by decide) (by decide) (by omega) (by decide) (by decide) rfl ?_
  refine ev_heap (h2 := hup h 33 _) (hup_new h9 (by decide)) ?_
  refine ev_putF (q := 80) dX7_init_77 fa_X7_39 rfl hup_at (by decide) (Nat.le_of_ble_eq_true rfl) (fun _ => ⟨rfl, rfl⟩) rfl ?_
  rw [hup_set]
  refine ev_aload_n (q := 81) dX7_init_80 rfl rfl ?_
  refine ev_bipush (q := 83) (40) dX7_init_81 (by decide) rfl ?_
  refine ev_newZ (q := 85) (N' := 40) dX7_init_83 w_acZ (by decide) (by decide) (by decide) (by omega) (by decide) (by decide) rfl ?_
  refine ev_heap (h2 := hup h 33 _) (hup_new h10 (by decide)) ?_
  refine ev_putF (q := 88) dX7_init_85 fa_X7_42 rfl hup_at (by decide) (Nat.le_of_ble_eq_true rfl) (fun _ => ⟨rfl, rfl⟩) rfl ?_
  rw [hup_set]
  refine ev_aload_n (q := 89) dX7_init_88 rfl rfl ?_
  refine ev_bipush (q := 91) (64) dX7_init_89 (by decide) rfl ?_
  refine ev_newI (q := 93) (N' := 64) dX7_init_91 w_acI (by decide) (by decide) (by decide) (by omega) (by decide) (by decide) rfl ?_
  refine ev_heap (h2 := hup h 33 _) (hup_new h11 (by decide)) ?_
  refine ev_putF (q := 96) dX7_init_93 fa_X7_46 rfl hup_at (by decide) (Nat.le_of_ble_eq_true rfl) (fun _ => ⟨rfl, rfl⟩) rfl ?_
  rw [hup_set]
  refine ev_aload_n (q := 97) dX7_init_96 rfl rfl ?_
  refine ev_bipush (q := 99) (64) dX7_init_97 (by decide) rfl ?_
  refine ev_newI (q := 101) (N' := 64) dX7_init_99 w_acI (by decide) (by decide) (by decide) (by omega) (by decide) (by decide) rfl ?_
  refine ev_heap (h2 := hup h 33 _) (hup_new h12 (by decide)) ?_
  refine ev_putF (q := 104) dX7_init_101 fa_X7_49 rfl hup_at (by decide) (Nat.le_of_ble_eq_true rfl) (fun _ => ⟨rfl, rfl⟩) rfl ?_
  rw [hup_set]
  refine ev_aload_n (q := 105) dX7_init_104 rfl rfl ?_
  refine ev_sipush (q := 108) (200) dX7_init_105 (by decide) rfl ?_
  refine ev_newI (q := 110) (N' := 200) dX7_init_108 w_acI (by decide) (by decide) (by decide) (by omega) (by decide) (by decide) rfl ?_
  refine ev_heap (h2 := hup h 33 _) (hup_new h13 (by decide)) ?_
  refine ev_putF (q := 113) dX7_init_110 fa_X7_52 rfl hup_at (by decide) (Nat.le_of_ble_eq_true rfl) (fun _ => ⟨rfl, rfl⟩) rfl ?_
  rw [hup_set]
  refine ev_aload_n (q := 114) dX7_init_113 rfl rfl ?_
  refine ev_bipush (q := 116) (14) dX7_init_114 (by decide) rfl ?_
  refine ev_newJ (q := 118) (N' := 14) dX7_init_116 w_acJ (by decide) (by decide) (by decide) (by omega) (by decide) (by decide) rfl ?_
  refine ev_heap (h2 := hup h 33 _) (hup_new h14 (by decide)) ?_
  refine ev_putF (q := 121) dX7_init_118 fa_X7_55 rfl hup_at (by decide) (Nat.le_of_ble_eq_true rfl) (fun _ => ⟨rfl, rfl⟩) rfl ?_
  rw [hup_set]
  refine ev_aload_n (q := 122) dX7_init_121 rfl rfl ?_
  refine ev_iconst (q := 123) (2) dX7_init_122 (by decide) rfl ?_
  refine ev_newZ (q := 125) (N' := 2) dX7_init_123 w_acZ (by decide) (by decide) (by decide) (by omega) (by decide) (by decide) rfl ?_
  refine ev_heap (h2 := hup h 33 _) (hup_new h15 (by decide)) ?_
  refine ev_putF (q := 128) dX7_init_125 fa_X7_58 rfl hup_at (by decide) (Nat.le_of_ble_eq_true rfl) (fun _ => ⟨rfl, rfl⟩) rfl ?_
  rw [hup_set]
  refine ev_heap (h2 := h) (hup_id (h := h) h0) ?_
  exact ev_less (by decide) (by decide) k
end CLS18
