section LOOP
variable {nm : String} {xl : Nat} {xs : Nat → Int32} {n i : Nat} {I S : Nat → Nat → Int32} {J T : Nat → Nat → Int64} {X : Nat → Option Nat} {Q : QT}
theorem lw_sw {j : Nat} (hj : j < 64) (hx : xl ≤ 320) (hi : i + 5 ≤ xl) (hG : GI n I J X) (k : ∀ n I S J T X, GI n I J X → Ev xl xs 7 169 (65 - n) ((65 - n) * 12) (mLn nm) 1159 [some (.ref 1004), some (.ref 0), some (.ref 33), some (.int (nI i))] [] n (sysH (ov I S) (ovJ J T) X) Q) : Ev xl xs 7 169 (65 - n) ((65 - n) * 12) (mLn nm) 32 [some (.ref 1004), some (.ref 0), some (.ref 33), some (.int (nI i))] [.int (nI j)] n (sysH (ov I S) (ovJ J T) X) Q := by
  match j, hj with
  | 0, _ => exact ev_tabIn 196 dL_law_32 (by decide) (by decide) rfl (by decide) (lw_things hx hi hG (fun _ _ _ _ h => k _ _ _ _ _ _ h))
  | 1, _ => exact ev_tabIn 219 dL_law_32 (by decide) (by decide) rfl (by decide) (lw_worth hx hi hG (fun _ _ _ _ h => k _ _ _ _ _ _ h))
  | 2, _ => exact ev_tabIn 262 dL_law_32 (by decide) (by decide) rfl (by decide) (lw_taste hx hi hG (fun _ _ _ _ h => k _ _ _ _ _ _ h))
  | 3, _ => exact ev_tabIn 295 dL_law_32 (by decide) (by decide) rfl (by decide) (lw_set hx hi hG (fun _ _ _ _ h => k _ _ _ _ _ _ h))
  | 4, _ => exact ev_tabIn 328 dL_law_32 (by decide) (by decide) rfl (by decide) (lw_now hx hi hG (fun _ _ _ _ h => k _ _ _ _ _ _ h))
  | 5, _ => exact ev_tabIn 351 dL_law_32 (by decide) (by decide) rfl (by decide) (lw_worthOf hx hi hG (fun _ _ _ _ h => k _ _ _ _ _ _ h))
  | 6, _ => exact ev_tabIn 384 dL_law_32 (by decide) (by decide) rfl (by decide) (lw_say hx hi hG (fun _ _ _ _ h => k _ _ _ _ _ _ h))
  | 7, _ => exact ev_tabIn 407 dL_law_32 (by decide) (by decide) rfl (by decide) (lw_wipe hx hi hG (fun _ _ _ _ h => k _ _ _ _ _ _ h))
  | 8, _ => exact ev_tabIn 420 dL_law_32 (by decide) (by decide) rfl (by decide) (lw_fault hx hi hG (fun _ _ _ _ h => k _ _ _ _ _ _ h))
  | 9, _ => exact ev_tabIn 433 dL_law_32 (by decide) (by decide) rfl (by decide) (lw_enact hx hi hG (fun _ _ _ _ h => k _ _ _ _ _ _ h))
  | 10, _ => exact ev_tabIn 446 dL_law_32 (by decide) (by decide) rfl (by decide) (lw_kept hx hi hG (fun _ _ _ _ h => k _ _ _ _ _ _ h))
  | 11, _ => exact ev_tabIn 469 dL_law_32 (by decide) (by decide) rfl (by decide) (lw_makes hx hi hG (fun _ _ _ _ h => k _ _ _ _ _ _ h))
  | 12, _ => exact ev_tabIn 482 dL_law_32 (by decide) (by decide) rfl (by decide) (lw_extreme hx hi hG (fun _ _ _ _ h => k _ _ _ _ _ _ h))
  | 13, _ => exact ev_tabIn 525 dL_law_32 (by decide) (by decide) rfl (by decide) (lw_harmed hx hi hG (fun _ _ _ _ h => k _ _ _ _ _ _ h))
  | 14, _ => exact ev_tabIn 538 dL_law_32 (by decide) (by decide) rfl (by decide) (lw_grant hx hi hG (fun _ _ _ _ h => k _ _ _ _ _ _ h))
  | 15, _ => exact ev_tabIn 551 dL_law_32 (by decide) (by decide) rfl (by decide) (lw_undo hx hi hG (fun _ _ _ _ h => k _ _ _ _ _ _ h))
  | 16, _ => exact ev_tabIn 564 dL_law_32 (by decide) (by decide) rfl (by decide) (lw_comma hx hi hG (fun _ _ _ _ h => k _ _ _ _ _ _ h))
  | 17, _ => exact ev_tabIn 587 dL_law_32 (by decide) (by decide) rfl (by decide) (lw_term hx hi hG (fun _ _ _ _ h => k _ _ _ _ _ _ h))
  | 18, _ => exact ev_tabIn 610 dL_law_32 (by decide) (by decide) rfl (by decide) (lw_wording hx hi hG (fun _ _ _ _ h => k _ _ _ _ _ _ h))
  | 19, _ => exact ev_tabIn 643 dL_law_32 (by decide) (by decide) rfl (by decide) (lw_most hx hi hG (fun _ _ _ _ h => k _ _ _ _ _ _ h))
  | 20, _ => exact ev_tabIn 676 dL_law_32 (by decide) (by decide) rfl (by decide) (lw_row hx hi hG (fun _ _ _ _ h => k _ _ _ _ _ _ h))
  | 21, _ => exact ev_tabIn 719 dL_law_32 (by decide) (by decide) rfl (by decide) (lw_lamps hx hi hG (fun _ _ _ _ h => k _ _ _ _ _ _ h))
  | 22, _ => exact ev_tabIn 762 dL_law_32 (by decide) (by decide) rfl (by decide) (lw_sixths hx hi hG (fun _ _ _ _ h => k _ _ _ _ _ _ h))
  | 23, _ => exact ev_tabIn 815 dL_law_32 (by decide) (by decide) rfl (by decide) (lw_votes hx hi hG (fun _ _ _ _ h => k _ _ _ _ _ _ h))
  | 24, _ => exact ev_tabIn 828 dL_law_32 (by decide) (by decide) rfl (by decide) (lw_agreed hx hi hG (fun _ _ _ _ h => k _ _ _ _ _ _ h))
  | 25, _ => exact ev_tabIn 851 dL_law_32 (by decide) (by decide) rfl (by decide) (lw_paid hx hi hG (fun _ _ _ _ h => k _ _ _ _ _ _ h))
  | 26, _ => exact ev_tabIn 864 dL_law_32 (by decide) (by decide) rfl (by decide) (lw_picked hx hi hG (fun _ _ _ _ h => k _ _ _ _ _ _ h))
  | 27, _ => exact ev_tabIn 887 dL_law_32 (by decide) (by decide) rfl (by decide) (lw_fit hx hi hG (fun _ _ _ _ h => k _ _ _ _ _ _ h))
  | 28, _ => exact ev_tabIn 910 dL_law_32 (by decide) (by decide) rfl (by decide) (lw_came hx hi hG (fun _ _ _ _ h => k _ _ _ _ _ _ h))
  | 29, _ => exact ev_tabIn 943 dL_law_32 (by decide) (by decide) rfl (by decide) (lw_letters hx hi hG (fun _ _ _ _ h => k _ _ _ _ _ _ h))
  | 30, _ => exact ev_tabIn 966 dL_law_32 (by decide) (by decide) rfl (by decide) (lw_forget hx hi hG (fun _ _ _ _ h => k _ _ _ _ _ _ h))
  | 31, _ => exact ev_tabIn 979 dL_law_32 (by decide) (by decide) rfl (by decide) (lw_drunk hx hi hG (fun _ _ _ _ h => k _ _ _ _ _ _ h))
  | 32, _ => exact ev_tabIn 1013 dL_law_32 (by decide) (by decide) rfl (by decide) (lw_mean hx hi hG (fun _ _ _ _ h => k _ _ _ _ _ _ h))
  | 33, _ => exact ev_tabIn 1047 dL_law_32 (by decide) (by decide) rfl (by decide) (lw_year hx hi hG (fun _ _ _ _ h => k _ _ _ _ _ _ h))
  | 34, _ => exact ev_tabIn 1090 dL_law_32 (by decide) (by decide) rfl (by decide) (lw_image hx hi hG k)
  | 35, _ => exact ev_tabIn 1113 dL_law_32 (by decide) (by decide) rfl (by decide) (lw_restore hx hi hG (fun _ _ _ _ h => k _ _ _ _ _ _ h))
  | 36, _ => exact ev_tabIn 1136 dL_law_32 (by decide) (by decide) rfl (by decide) (lw_told hx hi hG (fun _ _ _ _ h => k _ _ _ _ _ _ h))
  | j + 37, hj =>
    have e : (nI (j + 37)).toInt = (j : Int) + 37 := by rw [nI_toInt (by omega)]; omega
    exact ev_tabOut 1159 dL_law_32 (Or.inr (by rw [e]; omega)) (by decide) (k _ _ _ _ _ _ hG)
theorem lw_loop (hx : xl ≤ 320) (hQ : ∀ n h, Q (some (.int 1)) n h) : ∀ j i, i + j = xl → ∀ n I S J T X, GI n I J X → Ev xl xs 7 169 (65 - n) ((65 - n) * 12) (mLn nm) 18 [some (.ref 1004), some (.ref 0), some (.ref 33), some (.int (nI i))] [] n (sysH (ov I S) (ovJ J T) X) Q := by
  intro j
  induction j using Nat.strongRecOn with
  | _ j ih =>
    intro i hij n I S J T X hG
    have hn := GI_n hG
    have e5 : (Int32.ofNat xl - 5).toInt = (xl : Int) - 5 := pk_sub_toInt (a := xl) (b := 5) (by omega) (by omega)
    have ei : (nI i).toInt = (i : Int) := nI_toInt (by omega)
    by_cases hi : i + 5 ≤ xl
    · have e := fun n I S J T X => ih (j - 5) (by omega) (i + 5) (by omega) n I S J T X
      have K : ∀ n I S J T X, GI n I J X → Ev xl xs 7 169 (65 - n) ((65 - n) * 12) (mLn nm) 1159 [some (.ref 1004), some (.ref 0), some (.ref 33), some (.int (nI i))] [] n (sysH (ov I S) (ovJ J T) X) Q := by
        intro n I S J T X hG
        refine ev_inc_3 (q := 1162) (nI (i + 5)) dL_law_1159 (nI_add i 5) rfl rfl ?_
        refine ev_goto 18 dL_law_1162 (by decide) ?_
        exact e _ _ _ _ _ _ hG
      obtain ⟨o, ho, eo⟩ := pk_andE (xs (nI i).toNatClampNeg) (m := 63) 6 (by decide)
      refine ev_iload_n (q := 19) dL_law_18 rfl rfl ?_
      refine ev_aload_n (q := 20) dL_law_19 rfl rfl ?_
      refine ev_slen (q := 21) dL_law_20 rfl ?_
      refine ev_iconst (q := 22) (5) dL_law_21 (by decide) rfl ?_
      refine ev_isub (q := 23) dL_law_22 rfl ?_
      refine ev_icmp_gt (q := 26) 1165 dL_law_23 (by decide) rfl (fun c_23 => ?_) (fun c_23 => ?_)
      · exact absurd (show Int32.ofNat xl - 5 < nI i from c_23) (by rw [i_lt, e5, ei]; omega)
      · refine ev_aload_n (q := 27) dL_law_26 rfl rfl ?_
        refine ev_iload_n (q := 28) dL_law_27 rfl rfl ?_
        refine ev_sald (q := 29) dL_law_28 (vin (by omega) (by omega)) rfl ?_
        refine ev_bipush (q := 31) (63) dL_law_29 (by decide) rfl ?_
        refine ev_iand (q := 32) dL_law_31 rfl ?_
        rw [eo]
        exact lw_sw ho hx hi hG K
    · refine ev_iload_n (q := 19) dL_law_18 rfl rfl ?_
      refine ev_aload_n (q := 20) dL_law_19 rfl rfl ?_
      refine ev_slen (q := 21) dL_law_20 rfl ?_
      refine ev_iconst (q := 22) (5) dL_law_21 (by decide) rfl ?_
      refine ev_isub (q := 23) dL_law_22 rfl ?_
      refine ev_icmp_gt (q := 26) 1165 dL_law_23 (by decide) rfl (fun c_23 => ?_) (fun c_23 => ?_)
      · refine ev_iconst (q := 1166) (1) dL_law_1165 (by decide) rfl ?_
        exact ev_iretE dL_law_1166 rfl rfl rfl rfl rfl (hQ _ _)
      · exact absurd (show Int32.ofNat xl - 5 < nI i by rw [i_lt, e5, ei]; omega) c_23
end LOOP
