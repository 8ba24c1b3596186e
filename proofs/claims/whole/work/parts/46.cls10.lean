theorem ag_cmp {I : Nat → Nat → Int32} {J : Nat → Nat → Int64} {t sl wy wi he k u v w : Nat} (hk : KI I J t sl wy wi he) (hu : u < k) (hkN : k < 3 ^ t) : ((100000 * voF I t he w + 10 * (waF I t w + 500) + 6 - nI (wd t u)) < (100000 * voF I t he v + 10 * (waF I t v + 500) + 6 - nI (wd t k)) ↔ (meF I t he w < meF I t he v ∨ (meF I t he v = meF I t he w ∧ nI (rkN t k) < nI (rkN t u)))) := by
  have h6 := hk.1.2.2.1
  have d1 := wd_le (t := t) (num := k) h6
  have d2 := wd_le (t := t) (num := u) h6
  obtain ⟨V1, A1, b1, b2, b3, -, e1, e2⟩ := me_own hk v (wd t k) d1
  obtain ⟨V2, A2, c1, c2, c3, -, f1, f2⟩ := me_own hk w (wd t u) d2
  rw [rk_lt h6 hu hkN, i_lt, i_lt, e1, e2, f1, f2]
  have heq : meF I t he v = meF I t he w ↔ (1000 * V1 + 500 + A1 : Int) = 1000 * V2 + 500 + A2 := by
    rw [← e1, ← f1]
    exact Int32.toInt_inj.symm
  rw [heq]
  omega
section CLS10
variable {xl : Nat} {xs : Nat → Int32} {n : Nat} {h : Nat → PC} {I S : Nat → Nat → Int32} {J T : Nat → Nat → Int64} {X : Nat → Option Nat} {t sl wy wi he c : Nat}
theorem k_X6_fillMerits (hn : 49 ≤ n) (hk : KI I J t sl wy wi he) : Rn xl xs 3 69 0 0 mX6_fillMerits [.ref 0] n (sysH (ov I S) (ovJ J T) X) none n (sysH (ov I (fillA S 31 (2 ^ t) (meF I t he))) (ovJ J T) X) := by
  intro Q hQ
  have h64 := p2_le hk.1.2.2.1
  show Ev xl xs 3 69 0 0 mX6_fillMerits 0 [some (.ref 0), none, none, none] [] n (sysH (ov I S) (ovJ J T) X) Q
  have lp : ∀ j k, k + j = 2 ^ t → ∀ a2 a3, Ev xl xs 3 69 0 0 mX6_fillMerits 2 [some (.ref 0), some (.int (nI k)), a2, a3] [] n (sysH (ov I (fillA S 31 k (meF I t he))) (ovJ J T) X) Q := by
    intro j
    induction j using Nat.strongRecOn with
    | _ j ih =>
      intro k hkj a2 a3
      have e : ∀ h1, _ := fun (h1 : j - 1 < j) => ih (j - 1) h1 (k + 1)
      by_cases hkN : 2 ^ t ≤ k
      · have hkN : k = 2 ^ t := by omega
        subst hkN
        refine ev_iload_n (q := 3) dX6_fillMerits_2 rfl rfl ?_
        refine ev_aload_n (q := 4) dX6_fillMerits_3 rfl rfl ?_
        refine ev_get (q := 7) dX6_fillMerits_4 fr_X6_10 rfl (lt_n hn (by decide)) rfl rfl ?_
        refine ev_callV0i (q := 10) dX6_fillMerits_7 ca_X6_307 (k_X4_worldCount hn hk) rfl (lt_n hn (by decide)) rfl rfl (Nat.le_of_ble_eq_true rfl) (Nat.le_of_ble_eq_true rfl) (by decide) (by decide) rfl ?_
        refine ev_icmp_ge (q := 13) 67 dX6_fillMerits_10 (by decide) rfl (fun c_10 => ?_) (fun c_10 => ?_)
        · exact ev_retE dX6_fillMerits_67 rfl rfl rfl hQ
        · exact absurd ((nI_leI (by omega) (by omega)).mpr (Nat.le_refl _)) c_10
      · have e := e (by omega) (by omega)
        have inn : ∀ j i, i + j = 4 → Ev xl xs 3 69 0 0 mX6_fillMerits 17 [some (.ref 0), some (.int (nI k)), some (.int (upto (fun c s => s + wtF I t c k) i 0)), some (.int (nI i))] [] n (sysH (ov I (fillA S 31 k (meF I t he))) (ovJ J T) X) Q := by
          intro j
          induction j using Nat.strongRecOn with
          | _ j ih2 =>
            intro i hi
            have e2 : ∀ h1, _ := fun (h1 : j - 1 < j) => ih2 (j - 1) h1 (i + 1)
            by_cases hi4 : 4 ≤ i
            · have hi4 : i = 4 := by omega
              subst hi4
              refine ev_iload_n (q := 18) dX6_fillMerits_17 rfl rfl ?_
              refine ev_iconst (q := 19) (4) dX6_fillMerits_18 (by decide) rfl ?_
              refine ev_icmp_ge (q := 22) 40 dX6_fillMerits_19 (by decide) rfl (fun c_19 => ?_) (fun c_19 => ?_)
              · refine ev_aload_n (q := 41) dX6_fillMerits_40 rfl rfl ?_
                refine ev_get (q := 44) dX6_fillMerits_41 fr_X6_60 rfl (lt_n hn (by decide)) rfl rfl ?_
                refine ev_iload_n (q := 45) dX6_fillMerits_44 rfl rfl ?_
                refine ev_aload_n (q := 46) dX6_fillMerits_45 rfl rfl ?_
                refine ev_iload_n (q := 47) dX6_fillMerits_46 rfl rfl ?_
                refine ev_callV1i (q := 50) dX6_fillMerits_47 ca_X6_252 (k_X6_votesFor hn hk (by omega)) rfl (lt_n hn (by decide)) rfl rfl (Nat.le_of_ble_eq_true rfl) (Nat.le_of_ble_eq_true rfl) (by decide) (by decide) rfl ?_
                refine ev_sipush (q := 53) (1000) dX6_fillMerits_50 (by decide) rfl ?_
                refine ev_imul (q := 54) dX6_fillMerits_53 rfl ?_
                refine ev_sipush (q := 57) (500) dX6_fillMerits_54 (by decide) rfl ?_
                refine ev_iadd (q := 58) dX6_fillMerits_57 rfl ?_
                refine ev_iload_n (q := 59) dX6_fillMerits_58 rfl rfl ?_
                refine ev_iadd (q := 60) dX6_fillMerits_59 rfl ?_
                first | refine ev_isK (q := 61) k dX6_fillMerits_60 rfl rfl (by omega) (lt_n hn (by decide)) rfl rfl ?_ | refine ev_isR (q := 61) k dX6_fillMerits_60 rfl rfl (by omega) (lt_n hn (by decide)) rfl rfl ?_
                rw [show setI (fillA S 31 k (meF I t he)) 31 (upd (fillA S 31 k (meF I t he) 31) k (voF I t he k * 1000 + 500 + upto (fun c s => s + wtF I t c k) 4 0)) = fillA S 31 (k + 1) (meF I t he) from fillA_s _ _ _ (meF I t he)]
                refine ev_inc_1 (q := 64) (nI (k + 1)) dX6_fillMerits_61 (nI_1 k) rfl rfl ?_
                refine ev_goto 2 dX6_fillMerits_64 (by decide) ?_
                exact e _ _
              · exact absurd (show (4 : Int32) ≤ nI 4 by decide) c_19
            · refine ev_iload_n (q := 18) dX6_fillMerits_17 rfl rfl ?_
              refine ev_iconst (q := 19) (4) dX6_fillMerits_18 (by decide) rfl ?_
              refine ev_icmp_ge (q := 22) 40 dX6_fillMerits_19 (by decide) rfl (fun c_19 => ?_) (fun c_19 => ?_)
              · exact absurd ((nI_leI (a := 4) (by omega) (by omega)).mp c_19) hi4
              · refine ev_iload_n (q := 23) dX6_fillMerits_22 rfl rfl ?_
                refine ev_aload_n (q := 24) dX6_fillMerits_23 rfl rfl ?_
                refine ev_get (q := 27) dX6_fillMerits_24 fr_X6_10 rfl (lt_n hn (by decide)) rfl rfl ?_
                refine ev_iload_n (q := 28) dX6_fillMerits_27 rfl rfl ?_
                refine ev_iload_n (q := 29) dX6_fillMerits_28 rfl rfl ?_
                refine ev_callV2i (q := 32) dX6_fillMerits_29 ca_X6_109 (kw_X4_worthTo hn hk (by omega) (by omega)) rfl (lt_n hn (by decide)) rfl rfl (Nat.le_of_ble_eq_true rfl) (Nat.le_of_ble_eq_true rfl) (by decide) (by decide) rfl ?_
                refine ev_iadd (q := 33) dX6_fillMerits_32 rfl ?_
                refine ev_ist_2 (q := 34) dX6_fillMerits_33 rfl rfl ?_
                refine ev_inc_3 (q := 37) (nI (i + 1)) dX6_fillMerits_34 (nI_1 i) rfl rfl ?_
                refine ev_goto 17 dX6_fillMerits_37 (by decide) ?_
                exact e2 (by omega) (by omega)
        refine ev_iload_n (q := 3) dX6_fillMerits_2 rfl rfl ?_
        refine ev_aload_n (q := 4) dX6_fillMerits_3 rfl rfl ?_
        refine ev_get (q := 7) dX6_fillMerits_4 fr_X6_10 rfl (lt_n hn (by decide)) rfl rfl ?_
        refine ev_callV0i (q := 10) dX6_fillMerits_7 ca_X6_307 (k_X4_worldCount hn hk) rfl (lt_n hn (by decide)) rfl rfl (Nat.le_of_ble_eq_true rfl) (Nat.le_of_ble_eq_true rfl) (by decide) (by decide) rfl ?_
        refine ev_icmp_ge (q := 13) 67 dX6_fillMerits_10 (by decide) rfl (fun c_10 => ?_) (fun c_10 => ?_)
        · exact absurd ((nI_leI (by omega) (by omega)).mp c_10) hkN
        · refine ev_iconst (q := 14) (0) dX6_fillMerits_13 (by decide) rfl ?_
          refine ev_ist_2 (q := 15) dX6_fillMerits_14 rfl rfl ?_
          refine ev_iconst (q := 16) (0) dX6_fillMerits_15 (by decide) rfl ?_
          refine ev_ist_3 (q := 17) dX6_fillMerits_16 rfl rfl ?_
          exact inn 4 0 (by omega)
  refine ev_iconst (q := 1) (0) dX6_fillMerits_0 (by decide) rfl ?_
  refine ev_ist_1 (q := 2) dX6_fillMerits_1 rfl rfl ?_
  have e := lp (2 ^ t) 0 (by omega) none none
  rw [fillA_0] at e
  exact e
def valA (I : Nat → Nat → Int32) (J : Nat → Nat → Int64) (t sl wy wi he : Nat) : Nat → Option Int32 := fun k => (mtF I J t sl wy wi k he).map (meF I t he)
theorem k_X6_agreed (hn : 49 ≤ n) (hk : KI I J t sl wy wi he) (ht : TOK I J t) (what : Int32) : RnS xl xs 5 118 0 0 mX6_agreed [.ref 0, .int what] n I J X (some (.int (if inb what 0 1 then (match upto (pickB (fun _ o _ b => decide (b < o)) (ownA I J t sl wy wi he)) (3 ^ t) none with | none => -6 | some p => if what = 0 then nI p.1 else p.2 / 100000) else -2))) n I J X := by
  intro S T Q hQ
  have h6 := hk.1.2.2.1
  have h64 := p2_le h6
  have h729 := p3_le h6
  have hhl := hk.1.2.2.2.2.2.2.2.2.2.2
  show Ev xl xs 5 118 0 0 mX6_agreed 0 [some (.ref 0), some (.int what), none, none] [] n (sysH (ov I S) (ovJ J T) X) Q
  cases hin : inb what 0 1 with
  | false =>
    rw [hin] at hQ
    refine ev_iload_n (q := 1) dX6_agreed_0 rfl rfl ?_
    refine ev_callS1i (q := 4) dX6_agreed_1 ca_X6_158 (c_X6_isBit _) (Nat.le_of_ble_eq_true rfl) (Nat.le_of_ble_eq_true rfl) (by decide) (by decide) rfl ?_
    refine ev_if_ne (q := 7) 10 dX6_agreed_4 (by decide) rfl (fun c_4 => ?_) (fun c_4 => ?_)
    · exact absurd (b2i_ne.mp c_4) (by rw [hin]; decide)
    · refine ev_bipush (q := 9) (-2) dX6_agreed_7 (by decide) rfl ?_
      exact ev_iretE dX6_agreed_9 rfl rfl rfl rfl rfl (hQ _ _)
  | true =>
    rw [hin, if_pos rfl] at hQ
    have hbe := bo_eq (better := fun _ o _ b => decide (b < o)) (own := ownA I J t sl wy wi he) (val := valA I J t sl wy wi he) (t := t) (N := 3 ^ t) (fun k _ => by unfold ownA valA; cases mtF I J t sl wy wi k he <;> simp) (fun k u o b v w hu hkN h1 h2 h3 h4 => by
      unfold ownA at h1 h2
      unfold valA at h3 h4
      cases hx : mtF I J t sl wy wi k he with
      | none => rw [hx] at h1; cases h1
      | some x =>
        cases hy : mtF I J t sl wy wi u he with
        | none => rw [hy] at h2; cases h2
        | some y =>
          rw [hx, Option.map_some] at h1 h3
          rw [hy, Option.map_some] at h2 h4
          have h1 := Option.some.inj h1
          have h2 := Option.some.inj h2
          have h3 := Option.some.inj h3
          have h4 := Option.some.inj h4
          rw [← h1, ← h2, ← h3, ← h4, decide_eq_true_iff]
          exact ag_cmp hk hu hkN)
    have lp : ∀ j k, k + j = 3 ^ t → ∀ S T a3, RD I S wy wi → (∀ w, w < 2 ^ t → S 31 w = meF I t he w) → BS S (upto (boK t (valA I J t sl wy wi he)) k none) → Ev xl xs 5 118 0 0 mX6_agreed 30 [some (.ref 0), some (.int what), some (.int (nI k)), a3] [] n (sysH (ov I S) (ovJ J T) X) Q := by
      intro j
      induction j using Nat.strongRecOn with
      | _ j ih =>
        intro k hkj S T a3 hr h31 hbs
        have e : ∀ h1, _ := fun (h1 : j - 1 < j) => ih (j - 1) h1 (k + 1)
        by_cases hkN : 3 ^ t ≤ k
        · have hkN : k = 3 ^ t := by omega
          subst hkN
          rw [hbe _ (Nat.le_refl _)] at hbs
          have hlt := pickB_lt (better := fun _ o _ b => decide (b < o)) (own := ownA I J t sl wy wi he) (3 ^ t)
          have hown := pickB_own (better := fun _ o _ b => decide (b < o)) (own := ownA I J t sl wy wi he) (3 ^ t)
          cases ho : upto (pickB (fun _ o _ b => decide (b < o)) (ownA I J t sl wy wi he)) (3 ^ t) none with
          | none =>
            rw [ho] at hbs hQ
            have hb0 : S 30 0 = 0 := hbs
            refine ev_iload_n (q := 31) dX6_agreed_30 rfl rfl ?_
            refine ev_aload_n (q := 32) dX6_agreed_31 rfl rfl ?_
            refine ev_get (q := 35) dX6_agreed_32 fr_X6_33 rfl (lt_n hn (by decide)) rfl rfl ?_
            refine ev_get (q := 38) dX6_agreed_35 fr_X6_211 rfl (lt_n hn (by decide)) rfl rfl ?_
            rw [show ov I S 16 0 = nI (3 ^ t) from ht.1]
            refine ev_icmp_ge (q := 41) 88 dX6_agreed_38 (by decide) rfl (fun c_38 => ?_) (fun c_38 => ?_)
            · refine ev_aload_n (q := 89) dX6_agreed_88 rfl rfl ?_
              refine ev_get (q := 92) dX6_agreed_89 fr_X6_56 rfl (lt_n hn (by decide)) rfl rfl ?_
              refine ev_get (q := 95) dX6_agreed_92 fr_X6_198 rfl (lt_n hn (by decide)) rfl rfl ?_
              refine ev_if_ne (q := 98) 101 dX6_agreed_95 (by decide) rfl (fun c_95 => ?_) (fun c_95 => ?_)
              · exact absurd hb0 c_95
              · refine ev_bipush (q := 100) (-6) dX6_agreed_98 (by decide) rfl ?_
                exact ev_iretE dX6_agreed_100 rfl rfl rfl rfl rfl (hQ _ _)
            · exact absurd ((nI_leI (by omega) (by omega)).mpr (Nat.le_refl _)) c_38
          | some p =>
            obtain ⟨u, b⟩ := p
            rw [ho] at hbs hQ
            obtain ⟨b0, b1, b2⟩ := hbs
            have b1 : S 30 1 = (valA I J t sl wy wi he u).getD 0 := b1
            have hob := hown u b ho
            obtain ⟨r1, r2⟩ := rk_mod h6 (hlt u b ho)
            obtain ⟨x, hx⟩ : ∃ x, mtF I J t sl wy wi u he = some x := by
              unfold ownA at hob
              cases hx : mtF I J t sl wy wi u he with
              | none => rw [hx] at hob; cases hob
              | some x => exact ⟨x, rfl⟩
            have b1 : S 30 1 = meF I t he x := by rw [b1]; unfold valA; rw [hx]; rfl
            have hbv : b = 100000 * voF I t he x + 10 * (waF I t x + 500) + 6 - nI (wd t u) := by unfold ownA at hob; rw [hx, Option.map_some] at hob; exact (Option.some.inj hob).symm
            obtain ⟨V, A, v1, v2, v3, -, v5, v6⟩ := me_own hk x (wd t u) (wd_le h6)
            have hwl := wd_le (t := t) (num := u) h6
            have q1 : meF I t he x / 1000 = nI V := by
              obtain ⟨m, hm, em⟩ := nI_of (x := meF I t he x) (by rw [i_lt, v5, e_0i]; omega)
              rw [em, nI_toInt hm] at v5
              rw [em, show (1000 : Int32) = nI 1000 from rfl, pk_div hm (by decide) (by decide)]
              exact congrArg nI (by omega)
            have q2 : b / 100000 = nI V := by
              rw [← hbv] at v6
              obtain ⟨m, hm, em⟩ := nI_of (x := b) (by rw [i_lt, v6, e_0i]; omega)
              rw [em, nI_toInt hm] at v6
              rw [em, show (100000 : Int32) = nI 100000 from rfl, pk_div hm (by decide) (by decide)]
              exact congrArg nI (by omega)
            refine ev_iload_n (q := 31) dX6_agreed_30 rfl rfl ?_
            refine ev_aload_n (q := 32) dX6_agreed_31 rfl rfl ?_
            refine ev_get (q := 35) dX6_agreed_32 fr_X6_33 rfl (lt_n hn (by decide)) rfl rfl ?_
            refine ev_get (q := 38) dX6_agreed_35 fr_X6_211 rfl (lt_n hn (by decide)) rfl rfl ?_
            rw [show ov I S 16 0 = nI (3 ^ t) from ht.1]
            refine ev_icmp_ge (q := 41) 88 dX6_agreed_38 (by decide) rfl (fun c_38 => ?_) (fun c_38 => ?_)
            · refine ev_aload_n (q := 89) dX6_agreed_88 rfl rfl ?_
              refine ev_get (q := 92) dX6_agreed_89 fr_X6_56 rfl (lt_n hn (by decide)) rfl rfl ?_
              refine ev_get (q := 95) dX6_agreed_92 fr_X6_198 rfl (lt_n hn (by decide)) rfl rfl ?_
              refine ev_if_ne (q := 98) 101 dX6_agreed_95 (by decide) rfl (fun c_95 => ?_) (fun c_95 => ?_)
              · refine ev_iload_n (q := 102) dX6_agreed_101 rfl rfl ?_
                refine ev_if_ne (q := 105) 119 dX6_agreed_102 (by decide) rfl (fun c_102 => ?_) (fun c_102 => ?_)
                · have c_102 : ¬ what = 0 := c_102
                  refine ev_aload_n (q := 120) dX6_agreed_119 rfl rfl ?_
                  refine ev_get (q := 123) dX6_agreed_120 fr_X6_56 rfl (lt_n hn (by decide)) rfl rfl ?_
                  refine ev_get (q := 126) dX6_agreed_123 fr_X6_208 rfl (lt_n hn (by decide)) rfl rfl ?_
                  refine ev_sipush (q := 129) (1000) dX6_agreed_126 (by decide) rfl ?_
                  rw [show ov I S 30 1 = meF I t he x from b1]
                  refine ev_idiv (q := 130) (by decide) dX6_agreed_129 rfl ?_
                  exact ev_iretE dX6_agreed_130 rfl rfl (by show _ = (if what = 0 then nI u else b / 100000); first | (rw [if_pos c_102, r1]; done) | (rw [if_neg c_102, q1, q2])) rfl rfl (hQ _ _)
                · have c_102 : what = 0 := c_102
                  refine ev_aload_n (q := 106) dX6_agreed_105 rfl rfl ?_
                  refine ev_get (q := 109) dX6_agreed_106 fr_X6_56 rfl (lt_n hn (by decide)) rfl rfl ?_
                  refine ev_get (q := 112) dX6_agreed_109 fr_X6_202 rfl (lt_n hn (by decide)) rfl rfl ?_
                  refine ev_sipush (q := 115) (1000) dX6_agreed_112 (by decide) rfl ?_
                  rw [show ov I S 30 2 = nI (rkN t u) from b2]
                  refine ev_irem (q := 116) (by decide) dX6_agreed_115 rfl ?_
                  refine ev_goto 130 dX6_agreed_116 (by decide) ?_
                  exact ev_iretE dX6_agreed_130 rfl rfl (by show _ = (if what = 0 then nI u else b / 100000); first | (rw [if_pos c_102, r1]; done) | (rw [if_neg c_102, q1, q2])) rfl rfl (hQ _ _)
              · exact absurd (show S 30 0 = 0 from c_95) (by rw [b0]; decide)
            · exact absurd ((nI_leI (by omega) (by omega)).mpr (Nat.le_refl _)) c_38
        · have e := e (by omega) (by omega)
          simp only [upto] at e
          cases hm : mtF I J t sl wy wi k he with
          | none =>
            rw [boK_n (by unfold valA; rw [hm]; rfl)] at e
            refine ev_iload_n (q := 31) dX6_agreed_30 rfl rfl ?_
            refine ev_aload_n (q := 32) dX6_agreed_31 rfl rfl ?_
            refine ev_get (q := 35) dX6_agreed_32 fr_X6_33 rfl (lt_n hn (by decide)) rfl rfl ?_
            refine ev_get (q := 38) dX6_agreed_35 fr_X6_211 rfl (lt_n hn (by decide)) rfl rfl ?_
            rw [show ov I S 16 0 = nI (3 ^ t) from ht.1]
            refine ev_icmp_ge (q := 41) 88 dX6_agreed_38 (by decide) rfl (fun c_38 => ?_) (fun c_38 => ?_)
            · exact absurd ((nI_leI (by omega) (by omega)).mp c_38) hkN
            · refine ev_aload_n (q := 42) dX6_agreed_41 rfl rfl ?_
              refine ev_get (q := 45) dX6_agreed_42 fr_X6_42 rfl (lt_n hn (by decide)) rfl rfl ?_
              refine ev_iload_n (q := 46) dX6_agreed_45 rfl rfl ?_
              refine ev_aload_n (q := 47) dX6_agreed_46 rfl rfl ?_
              refine ev_get (q := 50) dX6_agreed_47 fr_X6_10 rfl (lt_n hn (by decide)) rfl rfl ?_
              refine ev_get (q := 53) dX6_agreed_50 fr_X6_103 rfl (lt_n hn (by decide)) rfl rfl ?_
              rw [show ov I S 1 1 = nI he from hk.2.1.2.1]
              refine ev_callV2i (q := 56) dX6_agreed_53 ca_X6_212 (k_X3_ofTerm hn hk ht hr (by omega) (by omega)) rfl (lt_n hn (by decide)) rfl rfl (Nat.le_of_ble_eq_true rfl) (Nat.le_of_ble_eq_true rfl) (by decide) (by decide) rfl ?_
              rw [hm]
              refine ev_ist_3 (q := 57) dX6_agreed_56 rfl rfl ?_
              refine ev_iload_n (q := 58) dX6_agreed_57 rfl rfl ?_
              refine ev_if_lt (q := 61) 82 dX6_agreed_58 (by decide) rfl (fun c_58 => ?_) (fun c_58 => ?_)
              · refine ev_inc_2 (q := 85) (nI (k + 1)) dX6_agreed_82 (nI_1 k) rfl rfl ?_
                refine ev_goto 30 dX6_agreed_85 (by decide) ?_
                exact e _ _ _ hr h31 hbs
              · exact absurd (show (-3 : Int32) < 0 by decide) c_58
          | some m =>
            have hm2 := mtF_lt hm
            rw [boK_s (v := meF I t he m) (by unfold valA; rw [hm]; rfl)] at e
            refine ev_iload_n (q := 31) dX6_agreed_30 rfl rfl ?_
            refine ev_aload_n (q := 32) dX6_agreed_31 rfl rfl ?_
            refine ev_get (q := 35) dX6_agreed_32 fr_X6_33 rfl (lt_n hn (by decide)) rfl rfl ?_
            refine ev_get (q := 38) dX6_agreed_35 fr_X6_211 rfl (lt_n hn (by decide)) rfl rfl ?_
            rw [show ov I S 16 0 = nI (3 ^ t) from ht.1]
            refine ev_icmp_ge (q := 41) 88 dX6_agreed_38 (by decide) rfl (fun c_38 => ?_) (fun c_38 => ?_)
            · exact absurd ((nI_leI (by omega) (by omega)).mp c_38) hkN
            · refine ev_aload_n (q := 42) dX6_agreed_41 rfl rfl ?_
              refine ev_get (q := 45) dX6_agreed_42 fr_X6_42 rfl (lt_n hn (by decide)) rfl rfl ?_
              refine ev_iload_n (q := 46) dX6_agreed_45 rfl rfl ?_
              refine ev_aload_n (q := 47) dX6_agreed_46 rfl rfl ?_
              refine ev_get (q := 50) dX6_agreed_47 fr_X6_10 rfl (lt_n hn (by decide)) rfl rfl ?_
              refine ev_get (q := 53) dX6_agreed_50 fr_X6_103 rfl (lt_n hn (by decide)) rfl rfl ?_
              rw [show ov I S 1 1 = nI he from hk.2.1.2.1]
              refine ev_callV2i (q := 56) dX6_agreed_53 ca_X6_212 (k_X3_ofTerm hn hk ht hr (by omega) (by omega)) rfl (lt_n hn (by decide)) rfl rfl (Nat.le_of_ble_eq_true rfl) (Nat.le_of_ble_eq_true rfl) (by decide) (by decide) rfl ?_
              rw [hm]
              refine ev_ist_3 (q := 57) dX6_agreed_56 rfl rfl ?_
              refine ev_iload_n (q := 58) dX6_agreed_57 rfl rfl ?_
              refine ev_if_lt (q := 61) 82 dX6_agreed_58 (by decide) rfl (fun c_58 => ?_) (fun c_58 => ?_)
              · exact absurd c_58 (nI_pos (n := m) (by omega))
              · refine ev_aload_n (q := 62) dX6_agreed_61 rfl rfl ?_
                refine ev_get (q := 65) dX6_agreed_62 fr_X6_56 rfl (lt_n hn (by decide)) rfl rfl ?_
                refine ev_aload_n (q := 66) dX6_agreed_65 rfl rfl ?_
                refine ev_get (q := 69) dX6_agreed_66 fr_X6_60 rfl (lt_n hn (by decide)) rfl rfl ?_
                refine ev_iload_n (q := 70) dX6_agreed_69 rfl rfl ?_
                refine ev_iaS (q := 71) m dX6_agreed_70 rfl rfl (by omega) (lt_n hn (by decide)) rfl ?_
                rw [show ov I S 31 m = meF I t he m from h31 m hm2]
                refine ev_aload_n (q := 72) dX6_agreed_71 rfl rfl ?_
                refine ev_get (q := 75) dX6_agreed_72 fr_X6_33 rfl (lt_n hn (by decide)) rfl rfl ?_
                refine ev_iload_n (q := 76) dX6_agreed_75 rfl rfl ?_
                refine ev_callV1i (q := 79) dX6_agreed_76 ca_X6_216 (k_X5_rankOf hn ht h6 (by omega)) rfl (lt_n hn (by decide)) rfl rfl (Nat.le_of_ble_eq_true rfl) (Nat.le_of_ble_eq_true rfl) (by decide) (by decide) rfl ?_
                refine ev_callV2vP (q := 82) dX6_agreed_79 ca_X6_219 (k_X0_offer hn hbs) rfl (lt_n hn (by decide)) rfl rfl (Nat.le_of_ble_eq_true rfl) (Nat.le_of_ble_eq_true rfl) (by decide) (by decide) rfl (fun S T hp_79 => ?_)
                obtain ⟨hb2, -, hfr⟩ := hp_79
                refine ev_inc_2 (q := 85) (nI (k + 1)) dX6_agreed_82 (nI_1 k) rfl rfl ?_
                refine ev_goto 30 dX6_agreed_85 (by decide) ?_
                exact e _ _ _ (RD_mono hr (hfr 22 (by decide)) (hfr 23 (by decide))) (fun w hw => by rw [hfr 31 (by decide)]; exact h31 w hw) hb2
    refine ev_iload_n (q := 1) dX6_agreed_0 rfl rfl ?_
    refine ev_callS1i (q := 4) dX6_agreed_1 ca_X6_158 (c_X6_isBit _) (Nat.le_of_ble_eq_true rfl) (Nat.le_of_ble_eq_true rfl) (by decide) (by decide) rfl ?_
    refine ev_if_ne (q := 7) 10 dX6_agreed_4 (by decide) rfl (fun c_4 => ?_) (fun c_4 => ?_)
    · refine ev_aload_n (q := 11) dX6_agreed_10 rfl rfl ?_
      refine ev_get (q := 14) dX6_agreed_11 fr_X6_42 rfl (lt_n hn (by decide)) rfl rfl ?_
      refine ev_callV0v (q := 17) dX6_agreed_14 ca_X6_182 (k_X3_ready hn hk) rfl (lt_n hn (by decide)) rfl rfl (Nat.le_of_ble_eq_true rfl) (Nat.le_of_ble_eq_true rfl) (by decide) (by decide) rfl ?_
      refine ev_aload_n (q := 18) dX6_agreed_17 rfl rfl ?_
      refine ev_get (q := 21) dX6_agreed_18 fr_X6_56 rfl (lt_n hn (by decide)) rfl rfl ?_
      refine ev_callV0v (q := 24) dX6_agreed_21 ca_X6_185 (k_X0_clear hn) rfl (lt_n hn (by decide)) rfl rfl (Nat.le_of_ble_eq_true rfl) (Nat.le_of_ble_eq_true rfl) (by decide) (by decide) rfl ?_
      refine ev_aload_n (q := 25) dX6_agreed_24 rfl rfl ?_
      refine ev_callV0v (q := 28) dX6_agreed_25 ca_X6_255 (k_X6_fillMerits hn hk) rfl (lt_n hn (by decide)) rfl rfl (Nat.le_of_ble_eq_true rfl) (Nat.le_of_ble_eq_true rfl) (by decide) (by decide) rfl ?_
      refine ev_iconst (q := 29) (0) dX6_agreed_28 (by decide) rfl ?_
      refine ev_ist_2 (q := 30) dX6_agreed_29 rfl rfl ?_
      exact lp (3 ^ t) 0 (by omega) _ _ _ (RD_mono RD_rdS rfl rfl) (fun w hw => fillA_at hw) rfl
    · exact absurd c_4 (b2i_n0.mpr hin)
theorem k_X6_year (hn : 49 ≤ n) (hk : KI I J t sl wy wi he) (ht : TOK I J t) (seed m what : Int32) : RnS xl xs 5 118 0 0 mX6_year [.ref 0, .int seed, .int m, .int what] n I J X (some (.int (if inb seed 0 9999 && (inb m 1 99 && inb what 0 2) then (if what = 0 then (upto (yrF I J t sl wy wi) m.toNatClampNeg (seed.toNatClampNeg, he, 0, 0)).2.2.1 else if what = 1 then nI (upto (yrF I J t sl wy wi) m.toNatClampNeg (seed.toNatClampNeg, he, 0, 0)).2.1 else (upto (yrF I J t sl wy wi) m.toNatClampNeg (seed.toNatClampNeg, he, 0, 0)).2.2.2) else -2))) n I J X := by
  intro S T Q hQ
  have h6 := hk.1.2.2.1
  have h64 := p2_le h6
  have h729 := p3_le h6
  have hpos : 0 < 3 ^ t := Nat.pow_pos (by decide)
  have hhl := hk.1.2.2.2.2.2.2.2.2.2.2
  show Ev xl xs 5 118 0 0 mX6_year 0 [some (.ref 0), some (.int seed), some (.int m), some (.int what), none, none, none, none, none, none, none] [] n (sysH (ov I S) (ovJ J T) X) Q
  cases hin : (inb seed 0 9999 && (inb m 1 99 && inb what 0 2)) with
  | false =>
    rw [hin] at hQ
    have h1 : ((seed < 0 ∨ 9999 < seed) ∨ ((m < 1 ∨ 99 < m) ∨ (what < 0 ∨ 2 < what))) := by
      rcases Bool.and_eq_false_iff.mp hin with h | h
      · exact Or.inl (inb_cases h)
      · rcases Bool.and_eq_false_iff.mp h with h | h
        · exact Or.inr (Or.inl (inb_cases h))
        · exact Or.inr (Or.inr (inb_cases h))
    refine ev_iload_n (q := 1) dX6_year_0 rfl rfl ?_
    refine ev_if_lt (q := 4) 31 dX6_year_1 (by decide) rfl (fun c_1 => ?_) (fun c_1 => ?_)
    · refine ev_bipush (q := 33) (-2) dX6_year_31 (by decide) rfl ?_
      exact ev_iretE dX6_year_33 rfl rfl rfl rfl rfl (hQ _ _)
    · refine ev_iload_n (q := 5) dX6_year_4 rfl rfl ?_
      refine ev_sipush (q := 8) (9999) dX6_year_5 (by decide) rfl ?_
      refine ev_icmp_gt (q := 11) 31 dX6_year_8 (by decide) rfl (fun c_8 => ?_) (fun c_8 => ?_)
      · refine ev_bipush (q := 33) (-2) dX6_year_31 (by decide) rfl ?_
        exact ev_iretE dX6_year_33 rfl rfl rfl rfl rfl (hQ _ _)
      · refine ev_iload_n (q := 12) dX6_year_11 rfl rfl ?_
        refine ev_iconst (q := 13) (1) dX6_year_12 (by decide) rfl ?_
        refine ev_icmp_lt (q := 16) 31 dX6_year_13 (by decide) rfl (fun c_13 => ?_) (fun c_13 => ?_)
        · refine ev_bipush (q := 33) (-2) dX6_year_31 (by decide) rfl ?_
          exact ev_iretE dX6_year_33 rfl rfl rfl rfl rfl (hQ _ _)
        · refine ev_iload_n (q := 17) dX6_year_16 rfl rfl ?_
          refine ev_bipush (q := 19) (99) dX6_year_17 (by decide) rfl ?_
          refine ev_icmp_gt (q := 22) 31 dX6_year_19 (by decide) rfl (fun c_19 => ?_) (fun c_19 => ?_)
          · refine ev_bipush (q := 33) (-2) dX6_year_31 (by decide) rfl ?_
            exact ev_iretE dX6_year_33 rfl rfl rfl rfl rfl (hQ _ _)
          · refine ev_iload_n (q := 23) dX6_year_22 rfl rfl ?_
            refine ev_if_lt (q := 26) 31 dX6_year_23 (by decide) rfl (fun c_23 => ?_) (fun c_23 => ?_)
            · refine ev_bipush (q := 33) (-2) dX6_year_31 (by decide) rfl ?_
              exact ev_iretE dX6_year_33 rfl rfl rfl rfl rfl (hQ _ _)
            · refine ev_iload_n (q := 27) dX6_year_26 rfl rfl ?_
              refine ev_iconst (q := 28) (2) dX6_year_27 (by decide) rfl ?_
              refine ev_icmp_le (q := 31) 34 dX6_year_28 (by decide) rfl (fun c_28 => ?_) (fun c_28 => ?_)
              · (simp only [i_le, i_lt] at *; omega)
              · refine ev_bipush (q := 33) (-2) dX6_year_31 (by decide) rfl ?_
                exact ev_iretE dX6_year_33 rfl rfl rfl rfl rfl (hQ _ _)
  | true =>
    rw [hin, if_pos rfl] at hQ
    obtain ⟨g1, g2⟩ := Bool.and_eq_true_iff.mp hin
    obtain ⟨g2, g3⟩ := Bool.and_eq_true_iff.mp g2
    obtain ⟨SD, -, hSD, rfl⟩ := inb_lo (lo := 0) (hi := 9999) (by decide) g1 (by decide)
    obtain ⟨M, hM1, hM, rfl⟩ := inb_lo (lo := 1) (hi := 99) (by decide) g2 (by decide)
    simp only [inb, Bool.and_eq_true, decide_eq_true_eq] at g3
    obtain ⟨g4, g5⟩ := g3
    rw [nI_clamp (by omega), nI_clamp (by omega)] at hQ
    have lp : ∀ j k, k + j = M → ∀ s, s = upto (yrF I J t sl wy wi) k (SD, he, 0, 0) → ∀ S T a10, RD I S wy wi → Ev xl xs 5 118 0 0 mX6_year 85 [some (.ref 0), some (.int (nI SD)), some (.int (nI M)), some (.int what), some (.int (nI (3 ^ t))), some (.int (nI s.1)), some (.int (nI s.2.1)), some (.int s.2.2.1), some (.int s.2.2.2), some (.int (nI k)), a10] [] n (sysH (ov I S) (ovJ J T) X) Q := by
      intro j
      induction j using Nat.strongRecOn with
      | _ j ih =>
        intro k hkj s hs S T a10 hr
        have e : ∀ h1, _ := fun (h1 : j - 1 < j) => ih (j - 1) h1 (k + 1)
        obtain ⟨hy1, hy2⟩ := yr_ok (I := I) (J := J) (t := t) (sl := sl) (wy := wy) (wi := wi) (SD, he, 0, 0) (show SD < 65537 by omega) hhl k
        rw [← hs] at hy1 hy2
        by_cases hkM : M ≤ k
        · have hkM : k = M := by omega
          subst hkM
          rw [← hs] at hQ
          refine ev_iload (q := 87) dX6_year_85 rfl rfl ?_
          refine ev_iload_n (q := 88) dX6_year_87 rfl rfl ?_
          refine ev_icmp_ge (q := 91) 175 dX6_year_88 (by decide) rfl (fun c_88 => ?_) (fun c_88 => ?_)
          · refine ev_iload_n (q := 176) dX6_year_175 rfl rfl ?_
            refine ev_if_ne (q := 179) 182 dX6_year_176 (by decide) rfl (fun c_176 => ?_) (fun c_176 => ?_)
            · have c_176 : ¬ what = 0 := c_176
              refine ev_iload_n (q := 183) dX6_year_182 rfl rfl ?_
              refine ev_iconst (q := 184) (1) dX6_year_183 (by decide) rfl ?_
              refine ev_icmp_ne (q := 187) 192 dX6_year_184 (by decide) rfl (fun c_184 => ?_) (fun c_184 => ?_)
              · have c_184 : ¬ what = 1 := c_184
                refine ev_iload (q := 194) dX6_year_192 rfl rfl ?_
                exact ev_iretE dX6_year_194 rfl rfl (by first | (rw [if_pos c_176]; done) | (rw [if_neg c_176, if_pos c_184]; done) | (rw [if_neg c_176, if_neg c_184])) rfl rfl (hQ _ _)
              · have c_184 : what = 1 := c_184
                refine ev_iload (q := 189) dX6_year_187 rfl rfl ?_
                refine ev_goto 194 dX6_year_189 (by decide) ?_
                exact ev_iretE dX6_year_194 rfl rfl (by first | (rw [if_pos c_176]; done) | (rw [if_neg c_176, if_pos c_184]; done) | (rw [if_neg c_176, if_neg c_184])) rfl rfl (hQ _ _)
            · have c_176 : what = 0 := c_176
              refine ev_iload (q := 181) dX6_year_179 rfl rfl ?_
              exact ev_iretE dX6_year_181 rfl rfl (by first | (rw [if_pos c_176]; done) | (rw [if_neg c_176, if_pos c_184]; done) | (rw [if_neg c_176, if_neg c_184])) rfl rfl (hQ _ _)
          · exact absurd ((nI_leI (by omega) (by omega)).mpr (Nat.le_refl _)) c_88
        · have hst : upto (yrF I J t sl wy wi) (k + 1) (SD, he, 0, 0) = yrF I J t sl wy wi k s := by rw [hs]; rfl
          have hx1 : (75 : Int32) * nI s.1 + 74 = nI (75 * s.1 + 74) := by rw [show (75 : Int32) = nI 75 from rfl, pk_mul]; exact nI_add _ 74
          have hx2 : nI (75 * s.1 + 74) - nI (75 * s.1 + 74) / 65537 * 65537 = nI ((75 * s.1 + 74) % 65537) := pk_rem (d := 65537) (by omega) (by decide) (by decide)
          have hxl : (75 * s.1 + 74) % 65537 < 65537 := Nat.mod_lt _ (by decide)
          have hx3 : nI ((75 * s.1 + 74) % 65537) - nI ((75 * s.1 + 74) % 65537) / nI (3 ^ t) * nI (3 ^ t) = nI ((75 * s.1 + 74) % 65537 % 3 ^ t) := pk_rem (by omega) hpos (by omega)
          have hnl : (75 * s.1 + 74) % 65537 % 3 ^ t < 3 ^ t := Nat.mod_lt _ hpos
          have e := e (by omega) (by omega) (yrF I J t sl wy wi k s) hst.symm
          unfold yrF at e
          cases hm : mtF I J t sl wy wi ((75 * s.1 + 74) % 65537 % 3 ^ t) s.2.1 with
          | none =>
            rw [hm] at e
            refine ev_iload (q := 87) dX6_year_85 rfl rfl ?_
            refine ev_iload_n (q := 88) dX6_year_87 rfl rfl ?_
            refine ev_icmp_ge (q := 91) 175 dX6_year_88 (by decide) rfl (fun c_88 => ?_) (fun c_88 => ?_)
            · exact absurd ((nI_leI (by omega) (by omega)).mp c_88) hkM
            · refine ev_bipush (q := 93) (75) dX6_year_91 (by decide) rfl ?_
              refine ev_iload (q := 95) dX6_year_93 rfl rfl ?_
              refine ev_imul (q := 96) dX6_year_95 rfl ?_
              refine ev_bipush (q := 98) (74) dX6_year_96 (by decide) rfl ?_
              refine ev_iadd (q := 99) dX6_year_98 rfl ?_
              refine ev_ldcw (q := 102) co_X6_299 dX6_year_99 rfl ?_
              refine ev_irem (q := 103) (by decide) dX6_year_102 rfl ?_
              rw [hx1, hx2]
              refine ev_ist_5 (q := 105) dX6_year_103 rfl rfl ?_
              refine ev_aload_n (q := 106) dX6_year_105 rfl rfl ?_
              refine ev_get (q := 109) dX6_year_106 fr_X6_42 rfl (lt_n hn (by decide)) rfl rfl ?_
              refine ev_iload (q := 111) dX6_year_109 rfl rfl ?_
              refine ev_iload (q := 113) dX6_year_111 rfl rfl ?_
              refine ev_irem (q := 114) (nI_ne0 hpos (by omega)) dX6_year_113 rfl ?_
              rw [hx3]
              refine ev_iload (q := 116) dX6_year_114 rfl rfl ?_
              refine ev_callV2i (q := 119) dX6_year_116 ca_X6_212 (k_X3_ofTerm hn hk ht hr hnl hy2) rfl (lt_n hn (by decide)) rfl rfl (Nat.le_of_ble_eq_true rfl) (Nat.le_of_ble_eq_true rfl) (by decide) (by decide) rfl ?_
              rw [hm]
              refine ev_ist_10 (q := 121) dX6_year_119 rfl rfl ?_
              refine ev_iload (q := 123) dX6_year_121 rfl rfl ?_
              refine ev_if_ge (q := 126) 132 dX6_year_123 (by decide) rfl (fun c_123 => ?_) (fun c_123 => ?_)
              · exact absurd c_123 (by decide)
              · refine ev_inc_7 (q := 129) _ dX6_year_126 rfl rfl rfl ?_
                refine ev_goto 169 dX6_year_129 (by decide) ?_
                refine ev_inc_9 (q := 172) (nI (k + 1)) dX6_year_169 (nI_1 k) rfl rfl ?_
                refine ev_goto 85 dX6_year_172 (by decide) ?_
                exact e _ _ _ hr
          | some w =>
            rw [hm] at e
            have hw2 := mtF_lt hm
            have hS1 := hw_made hk hr hw2
            have hS2 := hw_made hk hr hy2
            refine ev_iload (q := 87) dX6_year_85 rfl rfl ?_
            refine ev_iload_n (q := 88) dX6_year_87 rfl rfl ?_
            refine ev_icmp_ge (q := 91) 175 dX6_year_88 (by decide) rfl (fun c_88 => ?_) (fun c_88 => ?_)
            · exact absurd ((nI_leI (by omega) (by omega)).mp c_88) hkM
            · refine ev_bipush (q := 93) (75) dX6_year_91 (by decide) rfl ?_
              refine ev_iload (q := 95) dX6_year_93 rfl rfl ?_
              refine ev_imul (q := 96) dX6_year_95 rfl ?_
              refine ev_bipush (q := 98) (74) dX6_year_96 (by decide) rfl ?_
              refine ev_iadd (q := 99) dX6_year_98 rfl ?_
              refine ev_ldcw (q := 102) co_X6_299 dX6_year_99 rfl ?_
              refine ev_irem (q := 103) (by decide) dX6_year_102 rfl ?_
              rw [hx1, hx2]
              refine ev_ist_5 (q := 105) dX6_year_103 rfl rfl ?_
              refine ev_aload_n (q := 106) dX6_year_105 rfl rfl ?_
              refine ev_get (q := 109) dX6_year_106 fr_X6_42 rfl (lt_n hn (by decide)) rfl rfl ?_
              refine ev_iload (q := 111) dX6_year_109 rfl rfl ?_
              refine ev_iload (q := 113) dX6_year_111 rfl rfl ?_
              refine ev_irem (q := 114) (nI_ne0 hpos (by omega)) dX6_year_113 rfl ?_
              rw [hx3]
              refine ev_iload (q := 116) dX6_year_114 rfl rfl ?_
              refine ev_callV2i (q := 119) dX6_year_116 ca_X6_212 (k_X3_ofTerm hn hk ht hr hnl hy2) rfl (lt_n hn (by decide)) rfl rfl (Nat.le_of_ble_eq_true rfl) (Nat.le_of_ble_eq_true rfl) (by decide) (by decide) rfl ?_
              rw [hm]
              refine ev_ist_10 (q := 121) dX6_year_119 rfl rfl ?_
              refine ev_iload (q := 123) dX6_year_121 rfl rfl ?_
              refine ev_if_ge (q := 126) 132 dX6_year_123 (by decide) rfl (fun c_123 => ?_) (fun c_123 => ?_)
              · refine ev_iload (q := 134) dX6_year_132 rfl rfl ?_
                refine ev_aload_n (q := 135) dX6_year_134 rfl rfl ?_
                refine ev_get (q := 138) dX6_year_135 fr_X6_42 rfl (lt_n hn (by decide)) rfl rfl ?_
                refine ev_get (q := 141) dX6_year_138 fr_X6_215 rfl (lt_n hn (by decide)) rfl rfl ?_
                refine ev_iload (q := 143) dX6_year_141 rfl rfl ?_
                refine ev_iaS (q := 144) w dX6_year_143 rfl rfl (by omega) (lt_n hn (by decide)) rfl ?_
                rw [show ov I S 22 w = wtF I t wi w from hS1]
                refine ev_aload_n (q := 145) dX6_year_144 rfl rfl ?_
                refine ev_get (q := 148) dX6_year_145 fr_X6_42 rfl (lt_n hn (by decide)) rfl rfl ?_
                refine ev_get (q := 151) dX6_year_148 fr_X6_215 rfl (lt_n hn (by decide)) rfl rfl ?_
                refine ev_iload (q := 153) dX6_year_151 rfl rfl ?_
                refine ev_iaS (q := 154) s.2.1 dX6_year_153 rfl rfl (by omega) (lt_n hn (by decide)) rfl ?_
                rw [show ov I S 22 s.2.1 = wtF I t wi s.2.1 from hS2]
                refine ev_icmp_ge (q := 157) 161 dX6_year_154 (by decide) rfl (fun c_154 => ?_) (fun c_154 => ?_)
                · have c_154 : ¬ wtF I t wi w < wtF I t wi s.2.1 := fun h => absurd (show wtF I t wi s.2.1 ≤ wtF I t wi w from c_154) (by simp only [i_le, i_lt] at *; omega)
                  simp only [c_154, if_false] at e
                  refine ev_iconst (q := 162) (0) dX6_year_161 (by decide) rfl ?_
                  refine ev_iadd (q := 163) dX6_year_162 rfl ?_
                  refine ev_ist_8 (q := 165) dX6_year_163 rfl rfl ?_
                  refine ev_iload (q := 167) dX6_year_165 rfl rfl ?_
                  refine ev_ist_6 (q := 169) dX6_year_167 rfl rfl ?_
                  refine ev_inc_9 (q := 172) (nI (k + 1)) dX6_year_169 (nI_1 k) rfl rfl ?_
                  refine ev_goto 85 dX6_year_172 (by decide) ?_
                  exact e _ _ _ hr
                · have c_154 : wtF I t wi w < wtF I t wi s.2.1 := by have c_154 : ¬ wtF I t wi s.2.1 ≤ wtF I t wi w := c_154; simp only [i_le, i_lt] at *; omega
                  simp only [c_154, if_true] at e
                  refine ev_iconst (q := 158) (1) dX6_year_157 (by decide) rfl ?_
                  refine ev_goto 162 dX6_year_158 (by decide) ?_
                  refine ev_iadd (q := 163) dX6_year_162 rfl ?_
                  refine ev_ist_8 (q := 165) dX6_year_163 rfl rfl ?_
                  refine ev_iload (q := 167) dX6_year_165 rfl rfl ?_
                  refine ev_ist_6 (q := 169) dX6_year_167 rfl rfl ?_
                  refine ev_inc_9 (q := 172) (nI (k + 1)) dX6_year_169 (nI_1 k) rfl rfl ?_
                  refine ev_goto 85 dX6_year_172 (by decide) ?_
                  exact e _ _ _ hr
              · exact absurd (nI_pos' (n := w) (by omega)) c_123
    refine ev_iload_n (q := 1) dX6_year_0 rfl rfl ?_
    refine ev_if_lt (q := 4) 31 dX6_year_1 (by decide) rfl (fun c_1 => ?_) (fun c_1 => ?_)
    · exact absurd c_1 (nI_pos (by omega))
    · refine ev_iload_n (q := 5) dX6_year_4 rfl rfl ?_
      refine ev_sipush (q := 8) (9999) dX6_year_5 (by decide) rfl ?_
      refine ev_icmp_gt (q := 11) 31 dX6_year_8 (by decide) rfl (fun c_8 => ?_) (fun c_8 => ?_)
      · exact absurd ((nI_ltI (a := 9999) (by omega) (by omega)).mp c_8) (by omega)
      · refine ev_iload_n (q := 12) dX6_year_11 rfl rfl ?_
        refine ev_iconst (q := 13) (1) dX6_year_12 (by decide) rfl ?_
        refine ev_icmp_lt (q := 16) 31 dX6_year_13 (by decide) rfl (fun c_13 => ?_) (fun c_13 => ?_)
        · exact absurd ((nI_ltI (b := 1) (by omega) (by omega)).mp c_13) (by omega)
        · refine ev_iload_n (q := 17) dX6_year_16 rfl rfl ?_
          refine ev_bipush (q := 19) (99) dX6_year_17 (by decide) rfl ?_
          refine ev_icmp_gt (q := 22) 31 dX6_year_19 (by decide) rfl (fun c_19 => ?_) (fun c_19 => ?_)
          · exact absurd ((nI_ltI (a := 99) (by omega) (by omega)).mp c_19) (by omega)
          · refine ev_iload_n (q := 23) dX6_year_22 rfl rfl ?_
            refine ev_if_lt (q := 26) 31 dX6_year_23 (by decide) rfl (fun c_23 => ?_) (fun c_23 => ?_)
            · (simp only [i_le, i_lt] at *; omega)
            · refine ev_iload_n (q := 27) dX6_year_26 rfl rfl ?_
              refine ev_iconst (q := 28) (2) dX6_year_27 (by decide) rfl ?_
              refine ev_icmp_le (q := 31) 34 dX6_year_28 (by decide) rfl (fun c_28 => ?_) (fun c_28 => ?_)
              · refine ev_aload_n (q := 35) dX6_year_34 rfl rfl ?_
                refine ev_get (q := 38) dX6_year_35 fr_X6_42 rfl (lt_n hn (by decide)) rfl rfl ?_
                refine ev_callV0v (q := 41) dX6_year_38 ca_X6_182 (k_X3_ready hn hk) rfl (lt_n hn (by decide)) rfl rfl (Nat.le_of_ble_eq_true rfl) (Nat.le_of_ble_eq_true rfl) (by decide) (by decide) rfl ?_
                refine ev_aload_n (q := 42) dX6_year_41 rfl rfl ?_
                refine ev_get (q := 45) dX6_year_42 fr_X6_33 rfl (lt_n hn (by decide)) rfl rfl ?_
                refine ev_get (q := 48) dX6_year_45 fr_X6_211 rfl (lt_n hn (by decide)) rfl rfl ?_
                rw [show ov I _ 16 0 = nI (3 ^ t) from ht.1]
                refine ev_if_le (q := 51) 61 dX6_year_48 (by decide) rfl (fun c_48 => ?_) (fun c_48 => ?_)
                · exact absurd ((nI_leI (b := 0) (by omega) (by omega)).mp c_48) (by omega)
                · refine ev_aload_n (q := 52) dX6_year_51 rfl rfl ?_
                  refine ev_get (q := 55) dX6_year_52 fr_X6_33 rfl (lt_n hn (by decide)) rfl rfl ?_
                  refine ev_get (q := 58) dX6_year_55 fr_X6_211 rfl (lt_n hn (by decide)) rfl rfl ?_
                  rw [show ov I _ 16 0 = nI (3 ^ t) from ht.1]
                  refine ev_goto 62 dX6_year_58 (by decide) ?_
                  refine ev_ist_4 (q := 64) dX6_year_62 rfl rfl ?_
                  refine ev_iload_n (q := 65) dX6_year_64 rfl rfl ?_
                  refine ev_ist_5 (q := 67) dX6_year_65 rfl rfl ?_
                  refine ev_aload_n (q := 68) dX6_year_67 rfl rfl ?_
                  refine ev_get (q := 71) dX6_year_68 fr_X6_10 rfl (lt_n hn (by decide)) rfl rfl ?_
                  refine ev_get (q := 74) dX6_year_71 fr_X6_103 rfl (lt_n hn (by decide)) rfl rfl ?_
                  rw [show ov I _ 1 1 = nI he from hk.2.1.2.1]
                  refine ev_ist_6 (q := 76) dX6_year_74 rfl rfl ?_
                  refine ev_iconst (q := 77) (0) dX6_year_76 (by decide) rfl ?_
                  refine ev_ist_7 (q := 79) dX6_year_77 rfl rfl ?_
                  refine ev_iconst (q := 80) (0) dX6_year_79 (by decide) rfl ?_
                  refine ev_ist_8 (q := 82) dX6_year_80 rfl rfl ?_
                  refine ev_iconst (q := 83) (0) dX6_year_82 (by decide) rfl ?_
                  refine ev_ist_9 (q := 85) dX6_year_83 rfl rfl ?_
                  exact lp M 0 (by omega) (SD, he, 0, 0) rfl _ _ _ RD_rdS
              · exact absurd g5 c_28
end CLS10
