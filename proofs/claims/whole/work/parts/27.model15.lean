def sdM (t : Nat) (tx : Nat → Int32) : Nat → Nat
  | 0 => 0
  | k + 1 => sdM t tx k ||| (if isLt t (tx k) then 2 ^ ltN (tx k) else 0)
theorem sdM_lt {t : Nat} {tx : Nat → Int32} (h6 : t ≤ 6) (ht2 : 2 ≤ t) : ∀ k, sdM t tx k < 64
  | 0 => by show 0 < 64; decide
  | k + 1 => by
    have h1 := sdM_lt (t := t) (tx := tx) h6 ht2 k
    have h2 : (if isLt t (tx k) then 2 ^ ltN (tx k) else 0) < 2 ^ 6 := by
      split
      · rename_i h
        obtain ⟨j, hj, -, -, e⟩ := isLt_n h6 ht2 h
        rw [e]
        exact Nat.pow_lt_pow_right (by decide) (by omega)
      · decide
    exact Nat.or_lt_two_pow (n := 6) h1 h2
theorem sdM_congr {t : Nat} {tx ty : Nat → Int32} : ∀ {k : Nat}, (∀ i, i < k → tx i = ty i) → sdM t tx k = sdM t ty k
  | 0, _ => rfl
  | k + 1, h => by unfold sdM; rw [sdM_congr (fun i hi => h i (by omega)), h k (by omega)]
theorem dpM_congr {t : Nat} {tx ty : Nat → Int32} {sz : Nat} (h : ∀ i, i < sz → tx i = ty i) : ∀ i, i ≤ sz → dpM t tx sz i = dpM t ty sz i
  | 0, _ => rfl
  | i + 1, hi => by unfold dpM; rw [dpM_congr h i (by omega), h (sz - 1 - i) (by omega)]
theorem VT_congr {t : Nat} {tx ty : Nat → Int32} {sz : Nat} (h : ∀ i, i < sz → tx i = ty i) (hv : VT t tx sz) : VT t ty sz := by
  obtain ⟨h1, h2, h3⟩ := hv
  refine ⟨h1, fun i hi => ?_, by rw [← dpM_congr h sz (Nat.le_refl _)]; exact h3⟩
  rw [← dpM_congr h i (by omega), ← h (sz - 1 - i) (by omega)]
  exact h2 i hi
theorem mst_congr {t : Nat} {tx ty : Nat → Int32} {sz a w : Nat} (h : ∀ i, i < sz → tx i = ty i) : ∀ i, i ≤ sz → mst t tx sz a w i = mst t ty sz a w i
  | 0, _ => rfl
  | i + 1, hi => by
    show stM t tx a w (sz - 1 - i) (mst t tx sz a w i) = stM t ty a w (sz - 1 - i) (mst t ty sz a w i)
    rw [mst_congr h i (by omega)]
    unfold stM
    rw [h (sz - 1 - i) (by omega), h (sz - 1 - i - 1) (by omega)]
/-- is a world as the text says -/
def soM (t : Nat) (tx : Nat → Int32) (sz a w : Nat) : Bool := (mst t tx sz a w sz).headD false
theorem soM_congr {t : Nat} {tx ty : Nat → Int32} {sz a w : Nat} (h : ∀ i, i < sz → tx i = ty i) : soM t tx sz a w = soM t ty sz a w := by unfold soM; rw [mst_congr h sz (Nat.le_refl _)]
/-- does a world keep the text -/
def kpM (law : Int64) (t sl : Nat) (tx : Nat → Int32) (sz a : Nat) : Nat → Bool := fun w => lbit law w && (decide (pop 6 ((w ^^^ a) &&& (63 ^^^ sdM t tx sz)) ≤ sl) && soM t tx sz a w)
theorem mk64_congr {p q : Nat → Bool} : ∀ {k : Nat}, (∀ i, i < k → p i = q i) → mk64 p k = mk64 q k
  | 0, _ => rfl
  | k + 1, h => by unfold mk64; rw [mk64_congr (fun i hi => h i (by omega)), h k (by omega)]
theorem kpM_congr {law : Int64} {t sl : Nat} {tx ty : Nat → Int32} {sz a : Nat} (h : ∀ i, i < sz → tx i = ty i) : kpM law t sl tx sz a = kpM law t sl ty sz a := by
  funext w
  unfold kpM
  rw [sdM_congr h, soM_congr h]
theorem kp_f1 {law : Int64} {t sl : Nat} {tx : Nat → Int32} {sz a k : Nat} (h : lbit law k = false) : (0 : Int32) = b2i (kpM law t sl tx sz a k) := by unfold kpM; rw [h, Bool.false_and]; rfl
theorem kp_f2 {law : Int64} {t sl : Nat} {tx : Nat → Int32} {sz a k : Nat} (h : ¬ pop 6 ((k ^^^ a) &&& (63 ^^^ sdM t tx sz)) ≤ sl) : (0 : Int32) = b2i (kpM law t sl tx sz a k) := by unfold kpM; rw [decide_eq_false h, Bool.false_and, Bool.and_false]; rfl
theorem kp_f3 {law : Int64} {t sl : Nat} {tx : Nat → Int32} {sz a k : Nat} (h : soM t tx sz a k = false) : (0 : Int32) = b2i (kpM law t sl tx sz a k) := by unfold kpM; rw [h, Bool.and_false, Bool.and_false]; rfl
theorem kp_t {law : Int64} {t sl : Nat} {tx : Nat → Int32} {sz a k : Nat} (h1 : lbit law k = true) (h2 : pop 6 ((k ^^^ a) &&& (63 ^^^ sdM t tx sz)) ≤ sl) (h3 : soM t tx sz a k = true) : (1 : Int32) = b2i (kpM law t sl tx sz a k) := by unfold kpM; rw [h1, h3, decide_eq_true h2]; rfl
-- a text without a fault
theorem ffM_or {t : Nat} {pd : Nat → Int32} {sg : Nat} : ∀ j k wa ld, k + j = sg → ffM t pd sg j k wa ld = -6 ∨ ∃ m, m ≤ sg ∧ ffM t pd sg j k wa ld = nI m
  | 0, k, wa, ld, h => by
    unfold ffM
    split
    · exact Or.inl rfl
    · exact Or.inr ⟨sg, Nat.le_refl _, rfl⟩
  | j + 1, k, wa, ld, h => by
    unfold ffM
    split
    · exact ffM_or j (k + 1) _ _ (by omega)
    · exact Or.inr ⟨k, by omega, rfl⟩
theorem nI_n6 {m : Nat} (h : m < 2 ^ 31) : ¬ nI m = -6 := fun e => absurd (e ▸ nI_pos (n := m) h) (by decide)
theorem isLt_not {t : Nat} {s : Int32} (h6 : t ≤ 6) (ht2 : 2 ≤ t) (h : isLt t s = true) : ¬ s = 126 ∧ ¬ s = 45 ∧ ¬ s = 48 ∧ ¬ s = 49 ∧ isPr s = false := by
  obtain ⟨j, hj, rfl, -⟩ := isLt_n h6 ht2 h
  have : ∀ j, j < 6 → ¬ nI (97 + j) = 126 ∧ ¬ nI (97 + j) = 45 ∧ ¬ nI (97 + j) = 48 ∧ ¬ nI (97 + j) = 49 ∧ isPr (nI (97 + j)) = false := by decide +kernel
  exact this j (by omega)
theorem ffM_VT0 {t : Nat} {pd : Nat → Int32} {sg : Nat} (h6 : t ≤ 6) (ht2 : 2 ≤ t) (h40 : sg ≤ 40) : ∀ j k due ld, k + j = sg → due + j ≤ 100 → (ld = true → 1 ≤ due) → ffM t pd sg j k (nI due) ld = -6 →
    dpM t pd sg j = due ∧ ∀ i, i < j → isLt t (pd (sg - 1 - i)) = false → ¬ (pd (sg - 1 - i) = 48 ∨ pd (sg - 1 - i) = 49) → (pd (sg - 1 - i) = 45 → 1 ≤ dpM t pd sg i) ∧ (¬ pd (sg - 1 - i) = 45 → ¬ pd (sg - 1 - i) = 126 → 2 ≤ dpM t pd sg i)
  | 0, k, due, ld, hk, hd, hl, h => by
    unfold ffM at h
    split at h
    · rename_i h0
      have : due = 0 := (nI_eq (b := 0) (by omega) (by omega)).mp h0
      exact ⟨by rw [this]; rfl, fun i hi => absurd hi (by omega)⟩
    · exact absurd h (nI_n6 (by omega))
  | j + 1, k, due, ld, hk, hd, hl, h => by
    have hpos : sg - 1 - j = k := by omega
    unfold ffM at h
    split at h
    · rename_i hf
      have hf2 := (Bool.and_eq_true_iff.mp hf).2
      have hdue : 1 ≤ due := by
        cases hld : ld with
        | true => exact hl hld
        | false =>
          rw [hld] at hf2
          have h0 : 0 < nI due := of_decide_eq_true (Bool.and_eq_true_iff.mp hf2).1
          rcases Nat.eq_zero_or_pos due with e | e
          · rw [e] at h0; exact absurd h0 (by decide)
          · exact e
      have step : ∀ d2, nI due + dlM t (pd k) ld = nI d2 → d2 + j ≤ 100 → (pd k = 126 → 1 ≤ d2) → dpM t pd sg j = d2 ∧ ∀ i, i < j → isLt t (pd (sg - 1 - i)) = false → ¬ (pd (sg - 1 - i) = 48 ∨ pd (sg - 1 - i) = 49) → (pd (sg - 1 - i) = 45 → 1 ≤ dpM t pd sg i) ∧ (¬ pd (sg - 1 - i) = 45 → ¬ pd (sg - 1 - i) = 126 → 2 ≤ dpM t pd sg i) := by
        intro d2 e1 e2 e3
        rw [e1] at h
        exact ffM_VT0 h6 ht2 h40 j (k + 1) d2 _ (by omega) e2 (fun hh => e3 (of_decide_eq_true hh)) h
      have fin : dpM t pd sg (j + 1) = due → (isLt t (pd k) = false → ¬ (pd k = 48 ∨ pd k = 49) → (pd k = 45 → 1 ≤ dpM t pd sg j) ∧ (¬ pd k = 45 → ¬ pd k = 126 → 2 ≤ dpM t pd sg j)) → (∀ i, i < j → isLt t (pd (sg - 1 - i)) = false → ¬ (pd (sg - 1 - i) = 48 ∨ pd (sg - 1 - i) = 49) → (pd (sg - 1 - i) = 45 → 1 ≤ dpM t pd sg i) ∧ (¬ pd (sg - 1 - i) = 45 → ¬ pd (sg - 1 - i) = 126 → 2 ≤ dpM t pd sg i)) → dpM t pd sg (j + 1) = due ∧ ∀ i, i < j + 1 → isLt t (pd (sg - 1 - i)) = false → ¬ (pd (sg - 1 - i) = 48 ∨ pd (sg - 1 - i) = 49) → (pd (sg - 1 - i) = 45 → 1 ≤ dpM t pd sg i) ∧ (¬ pd (sg - 1 - i) = 45 → ¬ pd (sg - 1 - i) = 126 → 2 ≤ dpM t pd sg i) := by
        intro g1 g2 g3
        refine ⟨g1, fun i hi => ?_⟩
        by_cases hij : i = j
        · subst hij; rw [hpos]; exact g2
        · exact g3 i (by omega)
      have dpe : dpM t pd sg (j + 1) = if isLt t (pd k) then dpM t pd sg j + 1 else if pd k = 48 ∨ pd k = 49 then dpM t pd sg j + 1 else if pd k = 45 then dpM t pd sg j else if pd k = 126 then dpM t pd sg j else dpM t pd sg j - 1 := by
        show (if isLt t (pd (sg - 1 - j)) then _ else _) = _
        rw [hpos]
      rw [dpe] at fin ⊢
      cases hlf : leafM t (pd k) ld with
      | true =>
        have e1 : nI due + dlM t (pd k) ld = nI (due - 1) := by
          unfold dlM
          rw [hlf, if_pos rfl]
          obtain ⟨d', rfl⟩ : ∃ d', due = d' + 1 := ⟨due - 1, by omega⟩
          exact pk_m1 d'
        cases hil : isLt t (pd k) with
        | true =>
          obtain ⟨g1, g2⟩ := step (due - 1) e1 (by omega) (fun e => absurd e (isLt_not h6 ht2 hil).1)
          rw [hil] at fin
          exact fin (by rw [if_pos rfl, g1]; omega) (fun hh => by cases hh) g2
        | false =>
          have h48 : pd k = 48 ∨ pd k = 49 := by
            unfold leafM at hlf
            rw [hil, Bool.false_or] at hlf
            have := (Bool.and_eq_true_iff.mp hlf).2
            rcases Bool.or_eq_true_iff.mp this with e | e
            · exact Or.inl (of_decide_eq_true e)
            · exact Or.inr (of_decide_eq_true e)
          obtain ⟨g1, g2⟩ := step (due - 1) e1 (by omega) (fun e => by rcases h48 with e2 | e2 <;> rw [e2] at e <;> exact absurd e (by decide))
          rw [hil] at fin
          exact fin (by rw [if_neg (by decide), if_pos h48, g1]; omega) (fun _ hh => absurd h48 hh) g2
      | false =>
        have hld : ld = false := by
          cases hld : ld with
          | false => rfl
          | true => rw [hld] at hf2 hlf; rw [if_pos rfl, hlf] at hf2; cases hf2
        have hil : isLt t (pd k) = false := by
          unfold leafM at hlf
          exact (Bool.or_eq_false_iff.mp hlf).1
        have h48 : ¬ (pd k = 48 ∨ pd k = 49) := by
          intro hh
          unfold leafM at hlf
          rw [hld] at hlf
          have := (Bool.or_eq_false_iff.mp hlf).2
          rcases hh with e | e <;> simp [e] at this
        rw [hil] at fin ⊢
        cases hpr : isPr (pd k) with
        | true =>
          have e1 : nI due + dlM t (pd k) ld = nI (due + 1) := by
            unfold dlM
            rw [hlf, if_neg (by decide), hpr, if_pos rfl]
            exact nI_1 due
          have hne : ¬ pd k = 45 ∧ ¬ pd k = 126 := by
            constructor <;> intro e <;> rw [e] at hpr <;> exact absurd hpr (by decide)
          obtain ⟨g1, g2⟩ := step (due + 1) e1 (by omega) (fun e => absurd e hne.2)
          exact fin (by rw [if_neg (by decide), if_neg h48, if_neg hne.1, if_neg hne.2, g1]; omega) (fun _ _ => ⟨fun e => absurd e hne.1, fun _ _ => by omega⟩) g2
        | false =>
          have e1 : nI due + dlM t (pd k) ld = nI due := by
            unfold dlM
            rw [hlf, if_neg (by decide), hpr, if_neg (by decide)]
            exact nI_add due 0
          obtain ⟨g1, g2⟩ := step due e1 (by omega) (fun _ => hdue)
          have h3 : pd k = 126 ∨ pd k = 45 := by
            rw [hld, if_neg (by decide)] at hf2
            have := (Bool.and_eq_true_iff.mp hf2).2
            rw [← hld, hlf, Bool.false_or, hpr, Bool.or_false] at this
            rcases Bool.or_eq_true_iff.mp this with e | e
            · exact Or.inl (of_decide_eq_true e)
            · exact Or.inr (of_decide_eq_true e)
          refine fin ?_ (fun _ _ => ⟨fun _ => by omega, fun n1 n2 => absurd h3 (fun hh => hh.elim n2 n1)⟩) g2
          rw [if_neg (by decide), if_neg h48]
          rcases h3 with e | e
          · rw [if_neg (by rw [e]; decide), if_pos e]; exact g1
          · rw [if_pos e]; exact g1
    · exact absurd h (nI_n6 (by omega))
theorem ffM_VT {t : Nat} {pd : Nat → Int32} {sg : Nat} (h6 : t ≤ 6) (ht2 : 2 ≤ t) (h40 : sg ≤ 40) (h : ffM t pd sg sg 0 1 false = -6) : VT t pd sg := by
  obtain ⟨h1, h2⟩ := ffM_VT0 h6 ht2 h40 sg 0 1 false (by omega) (by omega) (fun e => by cases e) h
  exact ⟨h40, h2, h1⟩
section MODEL15
variable {xl : Nat} {xs : Nat → Int32} {n : Nat} {h : Nat → PC} {I S : Nat → Nat → Int32} {J T : Nat → Nat → Int64} {X : Nat → Option Nat} {t sl wy wi he : Nat}
theorem s_X7_saidOf {sz : Nat} (hn : 49 ≤ n) (hm : MI I t sl wy wi he) (hsz : S 33 18 = nI sz) (h40 : sz ≤ 40) : Rn xl xs 2 43 0 0 mX7_saidOf [.ref 33] n (sysH (ov I S) (ovJ J T) X) (some (.int (nI (sdM t (S 42) sz)))) n (sysH (ov I S) (ovJ J T) X) := by
  intro Q hQ
  have hm' := hm
  obtain ⟨ht, ht2, h6, hs, hs6, hwy, h3, hwi, h4, hhe, hhl⟩ := hm'
  show Ev xl xs 2 43 0 0 mX7_saidOf 0 [some (.ref 33), none, none] [] n (sysH (ov I S) (ovJ J T) X) Q
  have lp : ∀ j k, k + j = sz → Ev xl xs 2 43 0 0 mX7_saidOf 4 [some (.ref 33), some (.int (nI (sdM t (S 42) k))), some (.int (nI k))] [] n (sysH (ov I S) (ovJ J T) X) Q := by
    intro j
    induction j using Nat.strongRecOn with
    | _ j ih =>
      intro k hk
      have e := ih (j - 1)
      refine ev_iload_n (q := 5) dX7_saidOf_4 rfl rfl ?_
      refine ev_aload_n (q := 6) dX7_saidOf_5 rfl rfl ?_
      refine ev_get (q := 9) dX7_saidOf_6 fr_X7_133 rfl (lt_n hn (by decide)) rfl rfl ?_
      rw [show ov I S 33 18 = nI sz from hsz]
      refine ev_icmp_ge (q := 12) 49 dX7_saidOf_9 (by decide) rfl (fun c_9 => ?_) (fun c_9 => ?_)
      · have c_9 : sz ≤ k := (nI_leI (by omega) (by omega)).mp c_9
        refine ev_iload_n (q := 50) dX7_saidOf_49 rfl rfl ?_
        exact ev_iretE dX7_saidOf_50 rfl rfl (by rw [show k = sz by omega]) rfl rfl hQ
      · have c_9 : ¬ sz ≤ k := fun h => c_9 ((nI_leI (by omega) (by omega)).mpr h)
        have e := e (by omega) (k + 1) (by omega)
        refine ev_iload_n (q := 13) dX7_saidOf_12 rfl rfl ?_
        refine ev_aload_n (q := 14) dX7_saidOf_13 rfl rfl ?_
        refine ev_aload_n (q := 15) dX7_saidOf_14 rfl rfl ?_
        refine ev_get (q := 18) dX7_saidOf_15 fr_X7_39 rfl (lt_n hn (by decide)) rfl rfl ?_
        refine ev_iload_n (q := 19) dX7_saidOf_18 rfl rfl ?_
        refine ev_iaS (q := 20) _ dX7_saidOf_19 rfl rfl (by omega) (lt_n hn (by decide)) rfl ?_
        refine ev_callV1i (q := 23) dX7_saidOf_20 ca_X7_124 (s_X7_isLetter hn hm _) rfl (lt_n hn (by decide)) rfl rfl (Nat.le_of_ble_eq_true rfl) (Nat.le_of_ble_eq_true rfl) (by decide) (by decide) rfl ?_
        refine ev_if_eq (q := 26) 40 dX7_saidOf_23 (by decide) rfl (fun c_23 => ?_) (fun c_23 => ?_)
        · have c_23 : isLt t (S 42 k) = false := b2i_0.mp c_23
          refine ev_iconst (q := 41) (0) dX7_saidOf_40 (by decide) rfl ?_
          refine ev_ior (q := 42) dX7_saidOf_41 rfl ?_
          refine ev_ist_1 (q := 43) dX7_saidOf_42 rfl rfl ?_
          refine ev_inc_2 (q := 46) (nI (k + 1)) dX7_saidOf_43 (nI_1 k) rfl rfl ?_
          refine ev_goto 4 dX7_saidOf_46 (by decide) ?_
          first | (rw [nI_sh1 (by omega), nI_or]; simp only [sdM, c_23, if_true, hq4] at e; exact e) | (rw [show (0 : Int32) = nI 0 from rfl, nI_or]; simp only [sdM, c_23] at e; exact e)
        · have c_23 : isLt t (S 42 k) = true := b2i_n0.mp c_23
          obtain ⟨q, hq1, hq2, hq3, hq4⟩ := isLt_n h6 ht2 c_23
          refine ev_iconst (q := 27) (1) dX7_saidOf_26 (by decide) rfl ?_
          refine ev_aload_n (q := 28) dX7_saidOf_27 rfl rfl ?_
          refine ev_get (q := 31) dX7_saidOf_28 fr_X7_39 rfl (lt_n hn (by decide)) rfl rfl ?_
          refine ev_iload_n (q := 32) dX7_saidOf_31 rfl rfl ?_
          refine ev_iaS (q := 33) _ dX7_saidOf_32 rfl rfl (by omega) (lt_n hn (by decide)) rfl ?_
          refine ev_bipush (q := 35) (97) dX7_saidOf_33 (by decide) rfl ?_
          refine ev_isub (q := 36) dX7_saidOf_35 rfl ?_
          rw [show ov I S 42 k - 97 = nI q from hq3]
          refine ev_ishl (q := 37) dX7_saidOf_36 rfl ?_
          refine ev_goto 41 dX7_saidOf_37 (by decide) ?_
          refine ev_ior (q := 42) dX7_saidOf_41 rfl ?_
          refine ev_ist_1 (q := 43) dX7_saidOf_42 rfl rfl ?_
          refine ev_inc_2 (q := 46) (nI (k + 1)) dX7_saidOf_43 (nI_1 k) rfl rfl ?_
          refine ev_goto 4 dX7_saidOf_46 (by decide) ?_
          first | (rw [nI_sh1 (by omega), nI_or]; simp only [sdM, c_23, if_true, hq4] at e; exact e) | (rw [show (0 : Int32) = nI 0 from rfl, nI_or]; simp only [sdM, c_23] at e; exact e)
  refine ev_iconst (q := 1) (0) dX7_saidOf_0 (by decide) rfl ?_
  refine ev_ist_1 (q := 2) dX7_saidOf_1 rfl rfl ?_
  refine ev_iconst (q := 3) (0) dX7_saidOf_2 (by decide) rfl ?_
  refine ev_ist_2 (q := 4) dX7_saidOf_3 rfl rfl ?_
  exact lp sz 0 (by omega)
theorem s_X7_keeping {sz a : Nat} (hn : 49 ≤ n) (hm : MI I t sl wy wi he) (hsz : S 33 18 = nI sz) (hv : VT t (S 42) sz) (ha : a < 64) : RnP xl xs 3 69 mX7_keeping [.ref 33, .int (nI a)] n I S J T X (some (.long (mk64 (kpM (J 33 8) t sl (S 42) sz a) (2 ^ t)))) (fun S' T' => T' = T ∧ S' 42 = S 42 ∧ S' 33 = S 33) := by
  intro Q hQ
  have hm' := hm
  obtain ⟨ht, ht2, h6, hs, hs6, hwy, h3, hwi, h4, hhe, hhl⟩ := hm'
  have h64 := p2_le h6
  have h40 := hv.1
  have hsd := sdM_lt (t := t) (tx := S 42) h6 ht2 sz
  have hsaid := s_X7_saidOf (xl := xl) (xs := xs) (J := J) (T := T) (X := X) hn hm hsz h40
  generalize hx42 : S 42 = tx at hQ hv hsd hsaid
  generalize hx33 : S 33 = g3 at hQ
  rw [hx33] at hsz
  show Ev xl xs 3 69 0 0 mX7_keeping 0 [some (.ref 33), some (.int (nI a)), none, none, none, none, none] [] n (sysH (ov I S) (ovJ J T) X) Q
  have lp : ∀ j k, k + j = 2 ^ t → ∀ S' a6, S' 42 = tx → S' 33 = g3 → Ev xl xs 3 69 0 0 mX7_keeping 10 [some (.ref 33), some (.int (nI a)), some (.int (nI (sdM t tx sz))), some (.long (mk64 (kpM (J 33 8) t sl tx sz a) k)), none, some (.int (nI k)), a6] [] n (sysH (ov I S') (ovJ J T) X) Q := by
    intro j
    induction j using Nat.strongRecOn with
    | _ j ih =>
      intro k hk S' a6 e42 e33
      have J64 : ¬ 2 ^ t ≤ k → ∀ S' v, S' 42 = tx → S' 33 = g3 → v = b2i (kpM (J 33 8) t sl tx sz a k) → Ev xl xs 3 69 0 0 mX7_keeping 64 [some (.ref 33), some (.int (nI a)), some (.int (nI (sdM t tx sz))), some (.long (mk64 (kpM (J 33 8) t sl tx sz a) k)), none, some (.int (nI k)), a6] [.int v] n (sysH (ov I S') (ovJ J T) X) Q := by
        intro hkt S' v e42 e33 hv
        subst hv
        have e := ih (j - 1) (by omega) (k + 1) (by omega)
        refine ev_ist_6 (q := 66) dX7_keeping_64 rfl rfl ?_
        refine ev_lload_n (q := 67) dX7_keeping_66 rfl rfl ?_
        refine ev_iload (q := 69) dX7_keeping_67 rfl rfl ?_
        refine ev_if_eq (q := 72) 79 dX7_keeping_69 (by decide) rfl (fun c_69 => ?_) (fun c_69 => ?_)
        · have c_69 := b2i_0.mp c_69
          refine ev_lconst (q := 80) (0) dX7_keeping_79 (by decide) rfl ?_
          refine ev_lor (q := 81) dX7_keeping_80 rfl ?_
          refine ev_lst_3 (q := 82) dX7_keeping_81 rfl rfl ?_
          refine ev_inc_5 (q := 85) (nI (k + 1)) dX7_keeping_82 (nI_1 k) rfl rfl ?_
          refine ev_goto 10 dX7_keeping_85 (by decide) ?_
          simp only [mk64, c_69] at e
          exact e _ _ e42 e33
        · have c_69 := b2i_n0.mp c_69
          refine ev_lconst (q := 73) (1) dX7_keeping_72 (by decide) rfl ?_
          refine ev_iload (q := 75) dX7_keeping_73 rfl rfl ?_
          refine ev_lshl (q := 76) dX7_keeping_75 rfl ?_
          refine ev_goto 80 dX7_keeping_76 (by decide) ?_
          refine ev_lor (q := 81) dX7_keeping_80 rfl ?_
          refine ev_lst_3 (q := 82) dX7_keeping_81 rfl rfl ?_
          refine ev_inc_5 (q := 85) (nI (k + 1)) dX7_keeping_82 (nI_1 k) rfl rfl ?_
          refine ev_goto 10 dX7_keeping_85 (by decide) ?_
          simp only [mk64, c_69] at e
          exact e _ _ e42 e33
      have hx : k < 64 → k ^^^ a < 64 := fun hk => Nat.xor_lt_two_pow (n := 6) hk ha
      have hpl := pop_le 6 ((k ^^^ a) &&& (63 ^^^ sdM t tx sz))
      refine ev_iload (q := 12) dX7_keeping_10 rfl rfl ?_
      refine ev_aload_n (q := 13) dX7_keeping_12 rfl rfl ?_
      refine ev_callV0i (q := 16) dX7_keeping_13 ca_X7_95 (s_X7_worlds hn hm) rfl (lt_n hn (by decide)) rfl rfl (Nat.le_of_ble_eq_true rfl) (Nat.le_of_ble_eq_true rfl) (by decide) (by decide) rfl ?_
      refine ev_icmp_ge (q := 19) 88 dX7_keeping_16 (by decide) rfl (fun c_16 => ?_) (fun c_16 => ?_)
      · have c_16 : 2 ^ t ≤ k := (nI_leI (by omega) (by omega)).mp c_16
        refine ev_lload_n (q := 89) dX7_keeping_88 rfl rfl ?_
        rw [show k = 2 ^ t by omega]
        exact ev_lretE dX7_keeping_89 rfl rfl rfl rfl (hQ _ _ ⟨rfl, e42, e33⟩)
      · have c_16 : ¬ 2 ^ t ≤ k := fun h => c_16 ((nI_leI (by omega) (by omega)).mpr h)
        have hx := hx (by omega)
        have hb : (k ^^^ a) &&& (63 ^^^ sdM t tx sz) < 64 := Nat.lt_of_le_of_lt Nat.and_le_left hx
        refine ev_aload_n (q := 20) dX7_keeping_19 rfl rfl ?_
        refine ev_get (q := 23) dX7_keeping_20 fr_X7_80 rfl (lt_n hn (by decide)) rfl rfl ?_
        refine ev_iload (q := 25) dX7_keeping_23 rfl rfl ?_
        refine ev_callS2i (q := 28) dX7_keeping_25 ca_X7_143 (c_X7_holds (by omega)) (Nat.le_of_ble_eq_true rfl) (Nat.le_of_ble_eq_true rfl) (by decide) (by decide) rfl ?_
        refine ev_if_eq (q := 31) 63 dX7_keeping_28 (by decide) rfl (fun c_28 => ?_) (fun c_28 => ?_)
        · have c_28 : lbit (J 33 8) k = false := b2i_0.mp c_28
          refine ev_iconst (q := 64) (0) dX7_keeping_63 (by decide) rfl ?_
          first | exact J64 c_16 _ _ g42 g33 (kp_f3 c_56) | exact J64 c_16 _ _ e42 e33 (kp_f1 c_28) | exact J64 c_16 _ _ e42 e33 (kp_f2 c_46) | exact J64 c_16 _ _ g42 g33 (kp_t c_28 c_46 c_56)
        · have c_28 : lbit (J 33 8) k = true := b2i_n0.mp c_28
          refine ev_iload (q := 33) dX7_keeping_31 rfl rfl ?_
          refine ev_iload_n (q := 34) dX7_keeping_33 rfl rfl ?_
          refine ev_ixor (q := 35) dX7_keeping_34 rfl ?_
          refine ev_iload_n (q := 36) dX7_keeping_35 rfl rfl ?_
          refine ev_iconst (q := 37) (-1) dX7_keeping_36 (by decide) rfl ?_
          refine ev_ixor (q := 38) dX7_keeping_37 rfl ?_
          refine ev_iand (q := 39) dX7_keeping_38 rfl ?_
          rw [nI_xor, nI_not hx hsd]
          refine ev_callS1i (q := 42) dX7_keeping_39 ca_X7_147 (c_X7_bits (by omega)) (Nat.le_of_ble_eq_true rfl) (Nat.le_of_ble_eq_true rfl) (by decide) (by decide) rfl ?_
          refine ev_aload_n (q := 43) dX7_keeping_42 rfl rfl ?_
          refine ev_get (q := 46) dX7_keeping_43 fr_X7_70 rfl (lt_n hn (by decide)) rfl rfl ?_
          rw [show ov I S' 33 6 = nI sl from hs]
          refine ev_icmp_gt (q := 49) 63 dX7_keeping_46 (by decide) rfl (fun c_46 => ?_) (fun c_46 => ?_)
          · have c_46 : ¬ pop 6 ((k ^^^ a) &&& (63 ^^^ sdM t tx sz)) ≤ sl := Nat.not_le.mpr ((nI_ltI (by omega) (by omega)).mp c_46)
            refine ev_iconst (q := 64) (0) dX7_keeping_63 (by decide) rfl ?_
            first | exact J64 c_16 _ _ g42 g33 (kp_f3 c_56) | exact J64 c_16 _ _ e42 e33 (kp_f1 c_28) | exact J64 c_16 _ _ e42 e33 (kp_f2 c_46) | exact J64 c_16 _ _ g42 g33 (kp_t c_28 c_46 c_56)
          · have c_46 : pop 6 ((k ^^^ a) &&& (63 ^^^ sdM t tx sz)) ≤ sl := Nat.not_lt.mp fun h => c_46 ((nI_ltI (by omega) (by omega)).mpr h)
            refine ev_aload_n (q := 50) dX7_keeping_49 rfl rfl ?_
            refine ev_iload (q := 52) dX7_keeping_50 rfl rfl ?_
            refine ev_iload_n (q := 53) dX7_keeping_52 rfl rfl ?_
            have hso := s_X7_isSo (xl := xl) (xs := xs) (n := n) (J := J) (T := T) (X := X) (S := S') (sz := sz) (a := a) (w := k) hn hm ((congrFun e33 18).trans hsz) (by rw [e42]; exact hv) (by omega) (by omega)
            rw [e42, e33] at hso
            refine ev_callV2iP (q := 56) dX7_keeping_53 ca_X7_151 hso rfl (lt_n hn (by decide)) rfl rfl (Nat.le_of_ble_eq_true rfl) (Nat.le_of_ble_eq_true rfl) (by decide) (by decide) rfl (fun S T hp_53 => ?_)
            obtain ⟨gT, g42, g33⟩ := hp_53
            rw [gT]
            refine ev_if_eq (q := 59) 63 dX7_keeping_56 (by decide) rfl (fun c_56 => ?_) (fun c_56 => ?_)
            · have c_56 : soM t tx sz a k = false := b2i_0.mp c_56
              refine ev_iconst (q := 64) (0) dX7_keeping_63 (by decide) rfl ?_
              first | exact J64 c_16 _ _ g42 g33 (kp_f3 c_56) | exact J64 c_16 _ _ e42 e33 (kp_f1 c_28) | exact J64 c_16 _ _ e42 e33 (kp_f2 c_46) | exact J64 c_16 _ _ g42 g33 (kp_t c_28 c_46 c_56)
            · have c_56 : soM t tx sz a k = true := b2i_n0.mp c_56
              refine ev_iconst (q := 60) (1) dX7_keeping_59 (by decide) rfl ?_
              refine ev_goto 64 dX7_keeping_60 (by decide) ?_
              first | exact J64 c_16 _ _ g42 g33 (kp_f3 c_56) | exact J64 c_16 _ _ e42 e33 (kp_f1 c_28) | exact J64 c_16 _ _ e42 e33 (kp_f2 c_46) | exact J64 c_16 _ _ g42 g33 (kp_t c_28 c_46 c_56)
  refine ev_aload_n (q := 1) dX7_keeping_0 rfl rfl ?_
  refine ev_callV0i (q := 4) dX7_keeping_1 ca_X7_140 hsaid rfl (lt_n hn (by decide)) rfl rfl (Nat.le_of_ble_eq_true rfl) (Nat.le_of_ble_eq_true rfl) (by decide) (by decide) rfl ?_
  refine ev_ist_2 (q := 5) dX7_keeping_4 rfl rfl ?_
  refine ev_lconst (q := 6) (0) dX7_keeping_5 (by decide) rfl ?_
  refine ev_lst_3 (q := 7) dX7_keeping_6 rfl rfl ?_
  refine ev_iconst (q := 8) (0) dX7_keeping_7 (by decide) rfl ?_
  refine ev_ist_5 (q := 10) dX7_keeping_8 rfl rfl ?_
  exact lp (2 ^ t) 0 (by omega) _ _ hx42 hx33
end MODEL15
