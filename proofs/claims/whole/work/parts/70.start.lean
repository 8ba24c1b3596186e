section START
variable {nm : String} {xl : Nat} {xs : Nat → Int32} {n i : Nat} {I S : Nat → Nat → Int32} {J T : Nat → Nat → Int64} {X : Nat → Option Nat} {Q : QT}
theorem lw_go (hx : xl ≤ 320) (hQ : ∀ n h, Q (some (.int 1)) n h) : Ev xl xs 7 169 65 3842 (mLn nm) 0 [some (.ref 1004), none, none, none] [] 0 H0 Q := by
  refine ev_new (q := 3) dL_law_0 nc_L_7 (by omega) (by decide) (by decide) rfl ?_
  refine ev_dup (q := 4) (fun _ => rfl) dL_law_3 rfl ?_
  refine ev_callQI (q := 7) (As := []) (rest := [.ref 0]) dL_law_4 ca_L_9 rfl (Nat.le_of_ble_eq_true rfl) (Nat.le_of_ble_eq_true rfl) (by decide) (by decide) (by decide) (by decide) (i_X6 (Q := fun r2 n2 h2 => r2 = none ∧ n2 = 33 ∧ ∃ I1 J1, thP Z0 ZJ 4 I1 Z0 J1 ZJ ∧ h2 = sysH (ov I1 Z0) (ovJ J1 ZJ) NX) (fun I1 J1 h9 => ⟨rfl, rfl, I1, J1, h9, rfl⟩)) rfl (fun r2 n2 h2 hz => ?_)
  obtain ⟨rfl, rfl, I1, J1, hth, rfl⟩ := hz
  have zI : ∀ q, 5 ≤ q → q ≠ 16 → q ≠ 17 → q ≠ 18 → q ≠ 20 → I1 q = Z0 q := fun q h a1 a2 a3 a4 => (hth.1 q a1 a2 a3 a4).trans (bgI_q h)
  have zJ : ∀ q, 7 ≤ q → q ≠ 19 → J1 q = ZJ q := fun q h a1 => (hth.2.1 q a1).trans (bgJ_q h)
  have e33 : I1 33 = Z0 33 := zI 33 (by decide) (by decide) (by decide) (by decide) (by decide)
  have hpl : Ev xl xs 3 61 0 0 mX7_init 128 [some (.ref 33)] [] 49 (sysH (ov I1 Z0) (ovJ J1 ZJ) NX) (fun r2 n2 h2 => r2 = none ∧ n2 = 49 ∧ ∃ S T, h2 = sysH (ov (plI I1) S) (ovJ (wrJ J1 33 8 (allL 4)) T) NX) := by
    refine ev_aload_n (q := 129) dX7_init_128 rfl rfl ?_
    refine ev_callV0vS (q := 132) dX7_init_129 ca_X7_61 (s_X7_plain (t := 4) (by decide) ((congrFun e33 0).trans rfl) (by decide)) rfl (by decide) rfl rfl (Nat.le_of_ble_eq_true rfl) (Nat.le_of_ble_eq_true rfl) (by decide) (by decide) rfl (fun S T => ?_)
    exact ev_retE dX7_init_132 rfl rfl rfl ⟨rfl, rfl, _, _, rfl⟩
  show Ev xl xs 7 169 (65 - 1 - 32) (3842 - 10 - 3073) (mLn nm) 7 [some (.ref 1004), none, none, none] [.ref 0] 33 (sysH (ov I1 Z0) (ovJ J1 ZJ) NX) Q
  refine ev_ast_1 (q := 8) dL_law_7 rfl rfl ?_
  refine ev_new (q := 11) dL_law_8 nc_L_10 (by omega) (by decide) (by decide) rfl ?_
  refine ev_dup (q := 12) (fun _ => rfl) dL_law_11 rfl ?_
  refine ev_callQI (q := 15) (As := []) (rest := [.ref 33]) dL_law_12 ca_L_12 rfl (Nat.le_of_ble_eq_true rfl) (Nat.le_of_ble_eq_true rfl) (by decide) (by decide) (by decide) (by decide) (i_X7 (h := sysH (ov I1 Z0) (ovJ J1 ZJ) NX) (by show (Sum.inr (7, [.int (I1 33 0), .ref 34, .ref 35, .ref 36, .int (I1 33 4), .int (I1 33 5), .int (I1 33 6), .int (I1 33 7), .long (J1 33 8), .int (I1 33 9), .ref 37, .int (I1 33 11), .ref 38, .ref 39, .int (I1 33 14), .ref 40, .int (I1 33 16), .ref 41, .int 0, .ref 42, .ref 43, .int 0, .int 0, .ref 44, .ref 45, .int 0, .ref 46, .ref 47, .ref 48]) : PC) = _; rw [e33, zJ 33 (by decide) (by decide)]; rfl) (by show (Sum.inl (0, 24, Sum.inl (I1 34)) : PC) = _; rw [zI 34 (by decide) (by decide) (by decide) (by decide) (by decide)]; rfl) (by show (Sum.inl (0, 6, Sum.inl (I1 35)) : PC) = _; rw [zI 35 (by decide) (by decide) (by decide) (by decide) (by decide)]; rfl) (by show (Sum.inl (0, 4, Sum.inl (I1 36)) : PC) = _; rw [zI 36 (by decide) (by decide) (by decide) (by decide) (by decide)]; rfl) (by show (Sum.inl (0, 16, Sum.inl (I1 37)) : PC) = _; rw [zI 37 (by decide) (by decide) (by decide) (by decide) (by decide)]; rfl) (by show (Sum.inl (1, 6, Sum.inr (Sum.inl (J1 38))) : PC) = _; rw [zJ 38 (by decide) (by decide)]; rfl) (by show (Sum.inl (0, 6, Sum.inl (I1 39)) : PC) = _; rw [zI 39 (by decide) (by decide) (by decide) (by decide) (by decide)]; rfl) (by show (Sum.inl (0, 12, Sum.inl (I1 40)) : PC) = _; rw [zI 40 (by decide) (by decide) (by decide) (by decide) (by decide)]; rfl) (by show (Sum.inl (0, 40, Sum.inl (I1 41)) : PC) = _; rw [zI 41 (by decide) (by decide) (by decide) (by decide) (by decide)]; rfl) rfl rfl rfl rfl (by show (Sum.inl (0, 200, Sum.inl (I1 46)) : PC) = _; rw [zI 46 (by decide) (by decide) (by decide) (by decide) (by decide)]; rfl) (by show (Sum.inl (1, 14, Sum.inr (Sum.inl (J1 47))) : PC) = _; rw [zJ 47 (by decide) (by decide)]; rfl) (by show (Sum.inl (2, 2, Sum.inl (I1 48)) : PC) = _; rw [zI 48 (by decide) (by decide) (by decide) (by decide) (by decide)]; rfl) hpl) rfl (fun r2 n2 h2 hz => ?_)
  obtain ⟨rfl, rfl, S, T, rfl⟩ := hz
  show Ev xl xs 7 169 (65 - 1 - 32 - 1 - 15) (3842 - 10 - 3073 - 29 - 538) (mLn nm) 15 [some (.ref 1004), some (.ref 0), none, none] [.ref 33] 49 (sysH (ov (plI I1) S) (ovJ (wrJ J1 33 8 (allL 4)) T) NX) Q
  refine ev_ast_2 (q := 16) dL_law_15 rfl rfl ?_
  refine ev_iconst (q := 17) (0) dL_law_16 (by decide) rfl ?_
  refine ev_ist_3 (q := 18) dL_law_17 rfl rfl ?_
  exact ev_less (by decide) (by decide) (lw_loop hx hQ xl 0 (by omega) 49 _ _ _ _ _ (GI_init hth))
end START
