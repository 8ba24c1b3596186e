abbrev wr (I : Nat → Nat → Int32) (p j : Nat) (x : Int32) : Nat → Nat → Int32 := setI I p (upd (I p) j x)
abbrev wrJ (J : Nat → Nat → Int64) (p j : Nat) (x : Int64) : Nat → Nat → Int64 := setJ J p (vp_updL (J p) j x)
def shA (f : Nat → Int32) (m : Nat) : Nat → Int32 := fun j => if j < m then f (j + 1) else f j
theorem shA_s (f : Nat → Int32) (m : Nat) : upd (shA f m) m (shA f m (m + 1)) = shA f (m + 1) := by
  funext j
  by_cases hj : j = m
  · subst hj; simp [upd, shA, show ¬ j + 1 < j by omega]
  · by_cases h1 : j < m
    · simp [upd, shA, hj, h1, show j < m + 1 by omega]
    · simp [upd, shA, hj, h1, show ¬ j < m + 1 by omega]
theorem setI_setI (I : Nat → Nat → Int32) (p : Nat) (f g : Nat → Int32) : setI (setI I p f) p g = setI I p g := by
  funext a b
  by_cases h : a = p
  · simp [setI, h]
  · simp [setI, h]
theorem setI_self (I : Nat → Nat → Int32) (p : Nat) : setI I p (I p) = I := by
  funext a b
  by_cases h : a = p
  · subst h; simp [setI]
  · simp [setI, h]
theorem shA_0 (f : Nat → Int32) : shA f 0 = f := by funext j; simp [shA]
def ktF2 (Z : Int64) (i : Int32) : Nat → Int32 × Option Nat → Int32 × Option Nat := fun w s => match s.2 with
  | some v => (s.1, some v)
  | none => if lbit Z w then (if s.1 = i then (s.1, some w) else (s.1 + 1, none)) else (s.1, none)
def ktV (Z : Int64) (i : Int32) (N : Nat) : Int32 := eo (upto (ktF2 Z i) N (0, none)).2
theorem ktF2_stay {Z : Int64} {i c : Int32} {k v : Nat} (h : upto (ktF2 Z i) k (0, none) = (c, some v)) : ∀ j, (upto (ktF2 Z i) (k + j) (0, none)).2 = some v
  | 0 => by rw [Nat.add_zero, h]
  | j + 1 => by
    have ih := ktF2_stay h j
    show (ktF2 Z i (k + j) (upto (ktF2 Z i) (k + j) (0, none))).2 = some v
    generalize upto (ktF2 Z i) (k + j) (0, none) = s at ih
    obtain ⟨a, b⟩ := s
    dsimp only at ih
    subst ih
    rfl
theorem ktF2_n {Z : Int64} {i c : Int32} {k : Nat} (h : lbit Z k = false) : ktF2 Z i k (c, none) = (c, none) := by simp [ktF2, h]
theorem ktF2_s {Z : Int64} {i c : Int32} {k : Nat} (h : lbit Z k = true) (h2 : ¬ c = i) : ktF2 Z i k (c, none) = (c + 1, none) := by simp [ktF2, h, h2]
section MODEL17
variable {xl : Nat} {xs : Nat → Int32} {n : Nat} {h : Nat → PC} {I S : Nat → Nat → Int32} {J T : Nat → Nat → Int64} {X : Nat → Option Nat} {t sl wy wi he sg : Nat}
theorem s_X7_kept (hn : 49 ≤ n) (hm : MI I t sl wy wi he) (hsg : I 33 16 = nI sg) (h40 : sg ≤ 40) (i : Int32) : RnS xl xs 4 95 0 0 mX7_kept [.ref 33, .int i] n I J X (some (.int (if ffP I t sg = -6 then (if i = -1 then upto (fun w c => c + b2i (lbit (kpL I J t sl sg he) w)) (2 ^ t) 0 else ktV (kpL I J t sl sg he) i (2 ^ t)) else -5))) n I J X := by
  intro S T Q hQ
  have hm' := hm
  obtain ⟨ht, ht2, h6, hs, hs6, hwy, h3, hwi, h4, hhe, hhl⟩ := hm'
  have h64 := p2_le h6
  show Ev xl xs 4 95 0 0 mX7_kept 0 [some (.ref 33), some (.int i), none, none, none, none] [] n (sysH (ov I S) (ovJ J T) X) Q
  rcases ffP_or I t sg with hf | ⟨m, hm40, hf⟩
  · have hvt := ffM_VT h6 ht2 h40 hf
    have hff : ffM t (I 41) sg sg 0 1 false = -6 := hf
    have hpad := pad_lpS (I := I) (S := S) (sg := sg)
    rw [if_pos hf] at hQ
    generalize hZ : kpL I J t sl sg he = Z at hQ
    have lp : ¬ i = -1 → ∀ j k, k + j = 2 ^ t → ∀ S T c, upto (ktF2 Z i) k (0, none) = (c, none) → Ev xl xs 4 95 0 0 mX7_kept 40 [some (.ref 33), some (.int i), some (.long Z), none, some (.int c), some (.int (nI k))] [] n (sysH (ov I S) (ovJ J T) X) Q := by
      intro hi j
      rw [if_neg hi] at hQ
      induction j using Nat.strongRecOn with
      | _ j ih =>
        intro k hk S T c hc
        have e : ∀ h1, _ := fun (h1 : j - 1 < j) => ih (j - 1) h1 (k + 1)
        have hs : upto (ktF2 Z i) (k + 1) (0, none) = ktF2 Z i k (c, none) := by show ktF2 Z i k (upto (ktF2 Z i) k (0, none)) = _; rw [hc]
        refine ev_iload (q := 42) dX7_kept_40 rfl rfl ?_
        refine ev_aload_n (q := 43) dX7_kept_42 rfl rfl ?_
        refine ev_callV0i (q := 46) dX7_kept_43 ca_X7_95 (s_X7_worlds hn hm) rfl (lt_n hn (by decide)) rfl rfl (Nat.le_of_ble_eq_true rfl) (Nat.le_of_ble_eq_true rfl) (by decide) (by decide) rfl ?_
        refine ev_icmp_ge (q := 49) 76 dX7_kept_46 (by decide) rfl (fun c_46 => ?_) (fun c_46 => ?_)
        · have c_46 : 2 ^ t ≤ k := (nI_leI (by omega) (by omega)).mp c_46
          refine ev_bipush (q := 78) (-6) dX7_kept_76 (by decide) rfl ?_
          exact ev_iretE dX7_kept_78 rfl rfl (by unfold ktV; rw [show 2 ^ t = k by omega, hc]; rfl) rfl rfl (hQ _ _)
        · have c_46 : ¬ 2 ^ t ≤ k := fun h => c_46 ((nI_leI (by omega) (by omega)).mpr h)
          refine ev_lload_n (q := 50) dX7_kept_49 rfl rfl ?_
          refine ev_iload (q := 52) dX7_kept_50 rfl rfl ?_
          refine ev_callS2i (q := 55) dX7_kept_52 ca_X7_143 (c_X7_holds (by omega)) (Nat.le_of_ble_eq_true rfl) (Nat.le_of_ble_eq_true rfl) (by decide) (by decide) rfl ?_
          refine ev_if_eq (q := 58) 70 dX7_kept_55 (by decide) rfl (fun c_55 => ?_) (fun c_55 => ?_)
          · have c_55 := b2i_0.mp c_55
            refine ev_inc_5 (q := 73) (nI (k + 1)) dX7_kept_70 (nI_1 k) rfl rfl ?_
            refine ev_goto 40 dX7_kept_73 (by decide) ?_
            first | exact e (by omega) (by omega) _ _ _ (hs.trans (ktF2_n c_55)) | exact e (by omega) (by omega) _ _ _ (hs.trans (ktF2_s c_55 c_61))
          · have c_55 := b2i_n0.mp c_55
            refine ev_iload (q := 60) dX7_kept_58 rfl rfl ?_
            refine ev_iload_n (q := 61) dX7_kept_60 rfl rfl ?_
            refine ev_icmp_ne (q := 64) 67 dX7_kept_61 (by decide) rfl (fun c_61 => ?_) (fun c_61 => ?_)
            · have c_61 : ¬ c = i := c_61
              refine ev_inc_4 (q := 70) (c + 1) dX7_kept_67 rfl rfl rfl ?_
              refine ev_inc_5 (q := 73) (nI (k + 1)) dX7_kept_70 (nI_1 k) rfl rfl ?_
              refine ev_goto 40 dX7_kept_73 (by decide) ?_
              first | exact e (by omega) (by omega) _ _ _ (hs.trans (ktF2_n c_55)) | exact e (by omega) (by omega) _ _ _ (hs.trans (ktF2_s c_55 c_61))
            · have c_61 : c = i := c_61
              refine ev_iload (q := 66) dX7_kept_64 rfl rfl ?_
              exact ev_iretE dX7_kept_66 rfl rfl (by have e2 := ktF2_stay (Z := Z) (i := i) (c := c) (k := k + 1) (v := k) (by rw [hs]; simp only [ktF2, c_55, c_61, if_true]) (2 ^ t - (k + 1)); rw [show k + 1 + (2 ^ t - (k + 1)) = 2 ^ t by omega] at e2; unfold ktV; rw [e2]; rfl) rfl rfl (hQ _ _)
    have hkp := s_keepP (xl := xl) (xs := xs) (n := n) (J := J) (T := T) (X := X) hn hm hvt hpad (show he < 64 by omega)
    rw [hZ] at hkp
    refine ev_aload_n (q := 1) dX7_kept_0 rfl rfl ?_
    refine ev_callV0i (q := 4) dX7_kept_1 ca_X7_130 (s_X7_faultOf hn hm hsg h40) rfl (lt_n hn (by decide)) rfl rfl (Nat.le_of_ble_eq_true rfl) (Nat.le_of_ble_eq_true rfl) (by decide) (by decide) rfl ?_
    rw [hff]
    refine ev_if_lt (q := 7) 10 dX7_kept_4 (by decide) rfl (fun c_4 => ?_) (fun c_4 => ?_)
    · refine ev_aload_n (q := 11) dX7_kept_10 rfl rfl ?_
      refine ev_callV0v (q := 14) dX7_kept_11 ca_X7_154 (s_X7_layPad hn hm hsg h40) rfl (lt_n hn (by decide)) rfl rfl (Nat.le_of_ble_eq_true rfl) (Nat.le_of_ble_eq_true rfl) (by decide) (by decide) rfl ?_
      refine ev_aload_n (q := 15) dX7_kept_14 rfl rfl ?_
      refine ev_aload_n (q := 16) dX7_kept_15 rfl rfl ?_
      refine ev_get (q := 19) dX7_kept_16 fr_X7_73 rfl (lt_n hn (by decide)) rfl rfl ?_
      rw [show ov I (lpS S sg (I 41)) 33 7 = nI he from hhe]
      refine ev_callV1lP (q := 22) dX7_kept_19 ca_X7_157 hkp rfl (lt_n hn (by decide)) rfl rfl (Nat.le_of_ble_eq_true rfl) (Nat.le_of_ble_eq_true rfl) (by decide) (by decide) rfl (fun S T hp_19 => ?_)
      refine ev_lst_2 (q := 23) dX7_kept_22 rfl rfl ?_
      refine ev_iload_n (q := 24) dX7_kept_23 rfl rfl ?_
      refine ev_iconst (q := 25) (-1) dX7_kept_24 (by decide) rfl ?_
      refine ev_icmp_ne (q := 28) 34 dX7_kept_25 (by decide) rfl (fun c_25 => ?_) (fun c_25 => ?_)
      · have c_25 : ¬ i = -1 := c_25
        refine ev_iconst (q := 35) (0) dX7_kept_34 (by decide) rfl ?_
        refine ev_ist_4 (q := 37) dX7_kept_35 rfl rfl ?_
        refine ev_iconst (q := 38) (0) dX7_kept_37 (by decide) rfl ?_
        refine ev_ist_5 (q := 40) dX7_kept_38 rfl rfl ?_
        exact lp c_25 (2 ^ t) 0 (by omega) _ _ 0 rfl
      · have c_25 : i = -1 := c_25
        refine ev_aload_n (q := 29) dX7_kept_28 rfl rfl ?_
        refine ev_lload_n (q := 30) dX7_kept_29 rfl rfl ?_
        refine ev_callV1i (q := 33) dX7_kept_30 ca_X7_161 (s_X7_count hn hm) rfl (lt_n hn (by decide)) rfl rfl (Nat.le_of_ble_eq_true rfl) (Nat.le_of_ble_eq_true rfl) (by decide) (by decide) rfl ?_
        exact ev_iretE dX7_kept_33 rfl rfl (by rw [if_pos c_25]) rfl rfl (hQ _ _)
    · exact absurd neg6 c_4
  · have hff : ffM t (I 41) sg sg 0 1 false = nI m := hf
    have hn6 : ¬ ffP I t sg = -6 := by rw [hf]; exact nI_n6 (by omega)
    rw [if_neg hn6] at hQ
    refine ev_aload_n (q := 1) dX7_kept_0 rfl rfl ?_
    refine ev_callV0i (q := 4) dX7_kept_1 ca_X7_130 (s_X7_faultOf hn hm hsg h40) rfl (lt_n hn (by decide)) rfl rfl (Nat.le_of_ble_eq_true rfl) (Nat.le_of_ble_eq_true rfl) (by decide) (by decide) rfl ?_
    rw [hff]
    refine ev_if_lt (q := 7) 10 dX7_kept_4 (by decide) rfl (fun c_4 => ?_) (fun c_4 => ?_)
    · exact absurd c_4 (nI_pos (by omega))
    · refine ev_bipush (q := 9) (-5) dX7_kept_7 (by decide) rfl ?_
      exact ev_iretE dX7_kept_9 rfl rfl rfl rfl rfl (hQ _ _)
def soS (I : Nat → Nat → Int32) (t sg a : Nat) : Int64 := mk64 (fun w => soM t (I 41) sg a w) (2 ^ t)
theorem s_X7_enact_f (hn : 49 ≤ n) (hm : MI I t sl wy wi he) (hsg : I 33 16 = nI sg) (h40 : sg ≤ 40) (hf : ¬ ffP I t sg = -6) : RnS xl xs 3 69 0 0 mX7_enact [.ref 33] n I J X (some (.int (-5))) n I J X := by
  intro S T Q hQ
  show Ev xl xs 3 69 0 0 mX7_enact 0 [some (.ref 33), none, none, none] [] n (sysH (ov I S) (ovJ J T) X) Q
  rcases ffP_or I t sg with hf2 | ⟨m, hm40, hf2⟩
  · exact absurd hf2 hf
  · have hff : ffM t (I 41) sg sg 0 1 false = nI m := hf2
    refine ev_aload_n (q := 1) dX7_enact_0 rfl rfl ?_
    refine ev_callV0i (q := 4) dX7_enact_1 ca_X7_130 (s_X7_faultOf hn hm hsg h40) rfl (lt_n hn (by decide)) rfl rfl (Nat.le_of_ble_eq_true rfl) (Nat.le_of_ble_eq_true rfl) (by decide) (by decide) rfl ?_
    rw [hff]
    refine ev_if_lt (q := 7) 10 dX7_enact_4 (by decide) rfl (fun c_4 => ?_) (fun c_4 => ?_)
    · exact absurd c_4 (nI_pos (by omega))
    · refine ev_bipush (q := 9) (-5) dX7_enact_7 (by decide) rfl ?_
      exact ev_iretE dX7_enact_9 rfl rfl rfl rfl rfl (hQ _ _)
theorem s_X7_enact_t (hn : 49 ≤ n) (hm : MI I t sl wy wi he) (hsg : I 33 16 = nI sg) (h40 : sg ≤ 40) (hf : ffP I t sg = -6) : RnS xl xs 3 69 0 0 mX7_enact [.ref 33] n I J X (some (.int (nI sg))) n (wr I 33 16 0) (wrJ J 33 8 (soS I t sg he)) X := by
  intro S T Q hQ
  have hm' := hm
  obtain ⟨ht, ht2, h6, hs, hs6, hwy, h3, hwi, h4, hhe, hhl⟩ := hm'
  have h64 := p2_le h6
  have hvt := ffM_VT h6 ht2 h40 hf
  have hff : ffM t (I 41) sg sg 0 1 false = -6 := hf
  have hpad := pad_lpS (I := I) (S := S) (sg := sg)
  show Ev xl xs 3 69 0 0 mX7_enact 0 [some (.ref 33), none, none, none] [] n (sysH (ov I S) (ovJ J T) X) Q
  have lp : ∀ j k, k + j = 2 ^ t → ∀ S' T, PadOK I S' sg → Ev xl xs 3 69 0 0 mX7_enact 18 [some (.ref 33), some (.long (mk64 (fun w => soM t (I 41) sg he w) k)), none, some (.int (nI k))] [] n (sysH (ov I S') (ovJ J T) X) Q := by
    intro j
    induction j using Nat.strongRecOn with
    | _ j ih =>
      intro k hk S' T hp
      have e : ∀ h1, _ := fun (h1 : j - 1 < j) => ih (j - 1) h1 (k + 1)
      have hso : k < 64 → _ := fun hk64 => s_X7_isSo (xl := xl) (xs := xs) (n := n) (J := J) (T := T) (X := X) (S := S') (sz := sg) (a := he) (w := k) hn hm hp.1 (VT_congr (fun i hi => (hp.2 i hi).symm) hvt) (by omega) hk64
      refine ev_iload_n (q := 19) dX7_enact_18 rfl rfl ?_
      refine ev_aload_n (q := 20) dX7_enact_19 rfl rfl ?_
      refine ev_callV0i (q := 23) dX7_enact_20 ca_X7_95 (s_X7_worlds hn hm) rfl (lt_n hn (by decide)) rfl rfl (Nat.le_of_ble_eq_true rfl) (Nat.le_of_ble_eq_true rfl) (by decide) (by decide) rfl ?_
      refine ev_icmp_ge (q := 26) 54 dX7_enact_23 (by decide) rfl (fun c_23 => ?_) (fun c_23 => ?_)
      · have c_23 : 2 ^ t ≤ k := (nI_leI (by omega) (by omega)).mp c_23
        rw [show k = 2 ^ t by omega]
        refine ev_aload_n (q := 55) dX7_enact_54 rfl rfl ?_
        refine ev_lload_n (q := 56) dX7_enact_55 rfl rfl ?_
        refine ev_putJR (q := 59) dX7_enact_56 fa_X7_80 rfl (by decide) (lt_n hn (by decide)) (Nat.le_of_ble_eq_true rfl) ⟨rfl, rfl⟩ rfl rfl rfl ?_
        refine ev_aload_n (q := 60) dX7_enact_59 rfl rfl ?_
        refine ev_get (q := 63) dX7_enact_60 fr_X7_121 rfl (lt_n hn (by decide)) rfl rfl ?_
        refine ev_ist_3 (q := 64) dX7_enact_63 rfl rfl ?_
        refine ev_aload_n (q := 65) dX7_enact_64 rfl rfl ?_
        refine ev_iconst (q := 66) (0) dX7_enact_65 (by decide) rfl ?_
        first | refine ev_putIK (q := 69) dX7_enact_66 fa_X7_121 rfl (by decide) (lt_n hn (by decide)) (Nat.le_of_ble_eq_true rfl) ⟨rfl, rfl⟩ rfl rfl rfl ?_ | refine ev_putIR (q := 69) dX7_enact_66 fa_X7_121 rfl (by decide) (lt_n hn (by decide)) (Nat.le_of_ble_eq_true rfl) ⟨rfl, rfl⟩ rfl rfl rfl ?_
        refine ev_iload_n (q := 70) dX7_enact_69 rfl rfl ?_
        exact ev_iretE dX7_enact_70 rfl rfl hsg rfl rfl (hQ _ _)
      · have c_23 : ¬ 2 ^ t ≤ k := fun h => c_23 ((nI_leI (by omega) (by omega)).mpr h)
        have hso := hso (by omega)
        rw [mst_congr hp.2 sg (Nat.le_refl _)] at hso
        refine ev_lload_n (q := 27) dX7_enact_26 rfl rfl ?_
        refine ev_aload_n (q := 28) dX7_enact_27 rfl rfl ?_
        refine ev_iload_n (q := 29) dX7_enact_28 rfl rfl ?_
        refine ev_aload_n (q := 30) dX7_enact_29 rfl rfl ?_
        refine ev_get (q := 33) dX7_enact_30 fr_X7_73 rfl (lt_n hn (by decide)) rfl rfl ?_
        rw [show ov I S' 33 7 = nI he from hhe]
        refine ev_callV2iP (q := 36) dX7_enact_33 ca_X7_151 hso rfl (lt_n hn (by decide)) rfl rfl (Nat.le_of_ble_eq_true rfl) (Nat.le_of_ble_eq_true rfl) (by decide) (by decide) rfl (fun S T hp_33 => ?_)
        obtain ⟨gT, g42, g33⟩ := hp_33
        have hp2 : PadOK I S sg := ⟨by rw [g33]; exact hp.1, fun k hk => by rw [g42]; exact hp.2 k hk⟩
        refine ev_if_eq (q := 39) 45 dX7_enact_36 (by decide) rfl (fun c_36 => ?_) (fun c_36 => ?_)
        · have c_36 : soM t (I 41) sg he k = false := b2i_0.mp c_36
          refine ev_lconst (q := 46) (0) dX7_enact_45 (by decide) rfl ?_
          refine ev_lor (q := 47) dX7_enact_46 rfl ?_
          refine ev_lst_1 (q := 48) dX7_enact_47 rfl rfl ?_
          refine ev_inc_3 (q := 51) (nI (k + 1)) dX7_enact_48 (nI_1 k) rfl rfl ?_
          refine ev_goto 18 dX7_enact_51 (by decide) ?_
          have e := e (by omega) (by omega) _ T hp2
          simp only [mk64, c_36] at e
          exact e
        · have c_36 : soM t (I 41) sg he k = true := b2i_n0.mp c_36
          refine ev_lconst (q := 40) (1) dX7_enact_39 (by decide) rfl ?_
          refine ev_iload_n (q := 41) dX7_enact_40 rfl rfl ?_
          refine ev_lshl (q := 42) dX7_enact_41 rfl ?_
          refine ev_goto 46 dX7_enact_42 (by decide) ?_
          refine ev_lor (q := 47) dX7_enact_46 rfl ?_
          refine ev_lst_1 (q := 48) dX7_enact_47 rfl rfl ?_
          refine ev_inc_3 (q := 51) (nI (k + 1)) dX7_enact_48 (nI_1 k) rfl rfl ?_
          refine ev_goto 18 dX7_enact_51 (by decide) ?_
          have e := e (by omega) (by omega) _ T hp2
          simp only [mk64, c_36] at e
          exact e
  refine ev_aload_n (q := 1) dX7_enact_0 rfl rfl ?_
  refine ev_callV0i (q := 4) dX7_enact_1 ca_X7_130 (s_X7_faultOf hn hm hsg h40) rfl (lt_n hn (by decide)) rfl rfl (Nat.le_of_ble_eq_true rfl) (Nat.le_of_ble_eq_true rfl) (by decide) (by decide) rfl ?_
  rw [hff]
  refine ev_if_lt (q := 7) 10 dX7_enact_4 (by decide) rfl (fun c_4 => ?_) (fun c_4 => ?_)
  · refine ev_aload_n (q := 11) dX7_enact_10 rfl rfl ?_
    refine ev_callV0v (q := 14) dX7_enact_11 ca_X7_154 (s_X7_layPad hn hm hsg h40) rfl (lt_n hn (by decide)) rfl rfl (Nat.le_of_ble_eq_true rfl) (Nat.le_of_ble_eq_true rfl) (by decide) (by decide) rfl ?_
    refine ev_lconst (q := 15) (0) dX7_enact_14 (by decide) rfl ?_
    refine ev_lst_1 (q := 16) dX7_enact_15 rfl rfl ?_
    refine ev_iconst (q := 17) (0) dX7_enact_16 (by decide) rfl ?_
    refine ev_ist_3 (q := 18) dX7_enact_17 rfl rfl ?_
    exact lp (2 ^ t) 0 (by omega) _ _ hpad
  · exact absurd neg6 c_4
theorem s_X7_undo_0 (hn : 49 ≤ n) (hu : I 33 9 = nI 0) : RnS xl xs 0 0 0 0 mX7_undo [.ref 33] n I J X (some (.int (-3))) n I J X := by
  intro S T Q hQ
  show Ev xl xs 0 0 0 0 mX7_undo 0 [some (.ref 33)] [] n (sysH (ov I S) (ovJ J T) X) Q
  refine ev_aload_n (q := 1) dX7_undo_0 rfl rfl ?_
  refine ev_get (q := 4) dX7_undo_1 fr_X7_84 rfl (lt_n hn (by decide)) rfl rfl ?_
  rw [show ov I S 33 9 = nI 0 from hu]
  refine ev_if_ne (q := 7) 10 dX7_undo_4 (by decide) rfl (fun c_4 => ?_) (fun c_4 => ?_)
  · exact absurd rfl c_4
  · refine ev_bipush (q := 9) (-3) dX7_undo_7 (by decide) rfl ?_
    exact ev_iretE dX7_undo_9 rfl rfl rfl rfl rfl (hQ _ _)
theorem s_X7_undo {u : Nat} (hn : 49 ≤ n) (hu : I 33 9 = nI (u + 1)) (hu16 : u < 16) : RnS xl xs 0 0 0 0 mX7_undo [.ref 33] n I J X (some (.int (I 37 u))) n (wr (wr I 33 9 (nI u)) 33 7 (I 37 u)) J X := by
  intro S T Q hQ
  show Ev xl xs 0 0 0 0 mX7_undo 0 [some (.ref 33)] [] n (sysH (ov I S) (ovJ J T) X) Q
  refine ev_aload_n (q := 1) dX7_undo_0 rfl rfl ?_
  refine ev_get (q := 4) dX7_undo_1 fr_X7_84 rfl (lt_n hn (by decide)) rfl rfl ?_
  rw [show ov I S 33 9 = nI (u + 1) from hu]
  refine ev_if_ne (q := 7) 10 dX7_undo_4 (by decide) rfl (fun c_4 => ?_) (fun c_4 => ?_)
  · refine ev_aload_n (q := 11) dX7_undo_10 rfl rfl ?_
    refine ev_dup (q := 12) (fun _ => rfl) dX7_undo_11 rfl ?_
    refine ev_get (q := 15) dX7_undo_12 fr_X7_84 rfl (lt_n hn (by decide)) rfl rfl ?_
    refine ev_iconst (q := 16) (1) dX7_undo_15 (by decide) rfl ?_
    refine ev_isub (q := 17) dX7_undo_16 rfl ?_
    rw [show ov I S 33 9 - 1 = nI u from by rw [show ov I S 33 9 = nI (u + 1) from hu]; exact nI_pred u]
    first | refine ev_putIK (q := 20) dX7_undo_17 fa_X7_84 rfl (by decide) (lt_n hn (by decide)) (Nat.le_of_ble_eq_true rfl) ⟨rfl, rfl⟩ rfl rfl rfl ?_ | refine ev_putIR (q := 20) dX7_undo_17 fa_X7_84 rfl (by decide) (lt_n hn (by decide)) (Nat.le_of_ble_eq_true rfl) ⟨rfl, rfl⟩ rfl rfl rfl ?_
    refine ev_aload_n (q := 21) dX7_undo_20 rfl rfl ?_
    refine ev_aload_n (q := 22) dX7_undo_21 rfl rfl ?_
    refine ev_get (q := 25) dX7_undo_22 fr_X7_23 rfl (lt_n hn (by decide)) rfl rfl ?_
    refine ev_aload_n (q := 26) dX7_undo_25 rfl rfl ?_
    refine ev_get (q := 29) dX7_undo_26 fr_X7_84 rfl (lt_n hn (by decide)) rfl rfl ?_
    refine ev_iaS (q := 30) u dX7_undo_29 rfl rfl (by omega) (lt_n hn (by decide)) rfl ?_
    first | refine ev_putIK (q := 33) dX7_undo_30 fa_X7_73 rfl (by decide) (lt_n hn (by decide)) (Nat.le_of_ble_eq_true rfl) ⟨rfl, rfl⟩ rfl rfl rfl ?_ | refine ev_putIR (q := 33) dX7_undo_30 fa_X7_73 rfl (by decide) (lt_n hn (by decide)) (Nat.le_of_ble_eq_true rfl) ⟨rfl, rfl⟩ rfl rfl rfl ?_
    refine ev_aload_n (q := 34) dX7_undo_33 rfl rfl ?_
    refine ev_get (q := 37) dX7_undo_34 fr_X7_73 rfl (lt_n hn (by decide)) rfl rfl ?_
    exact ev_iretE dX7_undo_37 rfl rfl rfl rfl rfl (hQ _ _)
  · exact absurd c_4 (nI_ne0 (by omega) (by omega))
theorem s_X7_grant_f (hn : 49 ≤ n) (hm : MI I t sl wy wi he) (hsg : I 33 16 = nI sg) (h40 : sg ≤ 40) (hf : ffP I t sg = -6 → mdO I J t sl wy wi he sg = none) : RnS xl xs 5 116 0 0 mX7_grant [.ref 33] n I J X (some (.int (if ffP I t sg = -6 then -3 else -5))) n I J X := by
  intro S T Q hQ
  show Ev xl xs 5 116 0 0 mX7_grant 0 [some (.ref 33), none, none] [] n (sysH (ov I S) (ovJ J T) X) Q
  rcases mdF_or (I := I) (J := J) (t := t) (sl := sl) (wy := wy) (wi := wi) (he := he) (sg := sg) with ⟨hd, hf1⟩ | ⟨hd, hf1, ho⟩ | ⟨w, hw, hd, hf1, ho⟩
  · refine ev_aload_n (q := 1) dX7_grant_0 rfl rfl ?_
    refine ev_callV0iP (q := 4) dX7_grant_1 ca_X7_175 (s_X7_made hn hm hsg h40) rfl (lt_n hn (by decide)) rfl rfl (Nat.le_of_ble_eq_true rfl) (Nat.le_of_ble_eq_true rfl) (by decide) (by decide) rfl (fun S T hp_1 => ?_)
    rw [hd]
    refine ev_ist_1 (q := 5) dX7_grant_4 rfl rfl ?_
    refine ev_iload_n (q := 6) dX7_grant_5 rfl rfl ?_
    refine ev_if_ge (q := 9) 11 dX7_grant_6 (by decide) rfl (fun c_6 => ?_) (fun c_6 => ?_)
    · exact absurd c_6 (by decide)
    · refine ev_iload_n (q := 10) dX7_grant_9 rfl rfl ?_
      exact ev_iretE dX7_grant_10 rfl rfl (by rw [if_neg hf1]) rfl rfl (hQ _ _)
  · refine ev_aload_n (q := 1) dX7_grant_0 rfl rfl ?_
    refine ev_callV0iP (q := 4) dX7_grant_1 ca_X7_175 (s_X7_made hn hm hsg h40) rfl (lt_n hn (by decide)) rfl rfl (Nat.le_of_ble_eq_true rfl) (Nat.le_of_ble_eq_true rfl) (by decide) (by decide) rfl (fun S T hp_1 => ?_)
    rw [hd]
    refine ev_ist_1 (q := 5) dX7_grant_4 rfl rfl ?_
    refine ev_iload_n (q := 6) dX7_grant_5 rfl rfl ?_
    refine ev_if_ge (q := 9) 11 dX7_grant_6 (by decide) rfl (fun c_6 => ?_) (fun c_6 => ?_)
    · exact absurd c_6 (by decide)
    · refine ev_iload_n (q := 10) dX7_grant_9 rfl rfl ?_
      exact ev_iretE dX7_grant_10 rfl rfl (by rw [if_pos hf1]) rfl rfl (hQ _ _)
  · rw [hf hf1] at ho; cases ho
theorem s_X7_grant_t {u w : Nat} (hn : 49 ≤ n) (hm : MI I t sl wy wi he) (hsg : I 33 16 = nI sg) (h40 : sg ≤ 40) (hf : ffP I t sg = -6) (ho : mdO I J t sl wy wi he sg = some w) (hu : I 33 9 = nI u) (hu16 : u < 16) : RnS xl xs 5 116 0 0 mX7_grant [.ref 33] n I J X (some (.int (nI w))) n (wr (wr (wr (wr I 37 u (nI he)) 33 9 (nI (u + 1))) 33 7 (nI w)) 33 16 0) J X := by
  intro S T Q hQ
  have hw := mdO_lt ho
  have h64 := p2_le hm.2.2.1
  have hhe := hm.2.2.2.2.2.2.2.2.2.1
  have hd : mdF I J t sl wy wi he sg = nI w := by unfold mdF; rw [if_pos hf, ho]; rfl
  show Ev xl xs 5 116 0 0 mX7_grant 0 [some (.ref 33), none, none] [] n (sysH (ov I S) (ovJ J T) X) Q
  refine ev_aload_n (q := 1) dX7_grant_0 rfl rfl ?_
  refine ev_callV0iP (q := 4) dX7_grant_1 ca_X7_175 (s_X7_made hn hm hsg h40) rfl (lt_n hn (by decide)) rfl rfl (Nat.le_of_ble_eq_true rfl) (Nat.le_of_ble_eq_true rfl) (by decide) (by decide) rfl (fun S T hp_1 => ?_)
  rw [hd]
  refine ev_ist_1 (q := 5) dX7_grant_4 rfl rfl ?_
  refine ev_iload_n (q := 6) dX7_grant_5 rfl rfl ?_
  refine ev_if_ge (q := 9) 11 dX7_grant_6 (by decide) rfl (fun c_6 => ?_) (fun c_6 => ?_)
  · refine ev_aload_n (q := 12) dX7_grant_11 rfl rfl ?_
    refine ev_get (q := 15) dX7_grant_12 fr_X7_84 rfl (lt_n hn (by decide)) rfl rfl ?_
    rw [show ov I S 33 9 = nI u from hu]
    refine ev_bipush (q := 17) (16) dX7_grant_15 (by decide) rfl ?_
    refine ev_icmp_ne (q := 20) 58 dX7_grant_17 (by decide) rfl (fun c_17 => ?_) (fun c_17 => ?_)
    · refine ev_aload_n (q := 59) dX7_grant_58 rfl rfl ?_
      refine ev_get (q := 62) dX7_grant_59 fr_X7_23 rfl (lt_n hn (by decide)) rfl rfl ?_
      refine ev_aload_n (q := 63) dX7_grant_62 rfl rfl ?_
      refine ev_get (q := 66) dX7_grant_63 fr_X7_84 rfl (lt_n hn (by decide)) rfl rfl ?_
      refine ev_aload_n (q := 67) dX7_grant_66 rfl rfl ?_
      refine ev_get (q := 70) dX7_grant_67 fr_X7_73 rfl (lt_n hn (by decide)) rfl rfl ?_
      rw [show ov I S 33 7 = nI he from hhe]
      first | refine ev_isK (q := 71) u dX7_grant_70 hu rfl (by omega) (lt_n hn (by decide)) rfl rfl ?_ | refine ev_isR (q := 71) u dX7_grant_70 hu rfl (by omega) (lt_n hn (by decide)) rfl rfl ?_
      refine ev_aload_n (q := 72) dX7_grant_71 rfl rfl ?_
      refine ev_dup (q := 73) (fun _ => rfl) dX7_grant_72 rfl ?_
      refine ev_get (q := 76) dX7_grant_73 fr_X7_84 rfl (lt_n hn (by decide)) rfl rfl ?_
      refine ev_iconst (q := 77) (1) dX7_grant_76 (by decide) rfl ?_
      refine ev_iadd (q := 78) dX7_grant_77 rfl ?_
      rw [show ov (wr I 37 u (nI he)) S 33 9 + 1 = nI (u + 1) from by rw [show ov (wr I 37 u (nI he)) S 33 9 = nI u from hu]; exact nI_1 u]
      first | refine ev_putIK (q := 81) dX7_grant_78 fa_X7_84 rfl (by decide) (lt_n hn (by decide)) (Nat.le_of_ble_eq_true rfl) ⟨rfl, rfl⟩ rfl rfl rfl ?_ | refine ev_putIR (q := 81) dX7_grant_78 fa_X7_84 rfl (by decide) (lt_n hn (by decide)) (Nat.le_of_ble_eq_true rfl) ⟨rfl, rfl⟩ rfl rfl rfl ?_
      refine ev_aload_n (q := 82) dX7_grant_81 rfl rfl ?_
      refine ev_iload_n (q := 83) dX7_grant_82 rfl rfl ?_
      first | refine ev_putIK (q := 86) dX7_grant_83 fa_X7_73 rfl (by decide) (lt_n hn (by decide)) (Nat.le_of_ble_eq_true rfl) ⟨rfl, rfl⟩ rfl rfl rfl ?_ | refine ev_putIR (q := 86) dX7_grant_83 fa_X7_73 rfl (by decide) (lt_n hn (by decide)) (Nat.le_of_ble_eq_true rfl) ⟨rfl, rfl⟩ rfl rfl rfl ?_
      refine ev_aload_n (q := 87) dX7_grant_86 rfl rfl ?_
      refine ev_iconst (q := 88) (0) dX7_grant_87 (by decide) rfl ?_
      first | refine ev_putIK (q := 91) dX7_grant_88 fa_X7_121 rfl (by decide) (lt_n hn (by decide)) (Nat.le_of_ble_eq_true rfl) ⟨rfl, rfl⟩ rfl rfl rfl ?_ | refine ev_putIR (q := 91) dX7_grant_88 fa_X7_121 rfl (by decide) (lt_n hn (by decide)) (Nat.le_of_ble_eq_true rfl) ⟨rfl, rfl⟩ rfl rfl rfl ?_
      refine ev_iload_n (q := 92) dX7_grant_91 rfl rfl ?_
      exact ev_iretE dX7_grant_92 rfl rfl rfl rfl rfl (hQ _ _)
    · exact absurd ((nI_eq (b := 16) (by omega) (by omega)).mp c_17) (by omega)
  · exact absurd (nI_pos' (by omega)) c_6
theorem s_X7_grant_16 {w : Nat} (hn : 49 ≤ n) (hm : MI I t sl wy wi he) (hsg : I 33 16 = nI sg) (h40 : sg ≤ 40) (hf : ffP I t sg = -6) (ho : mdO I J t sl wy wi he sg = some w) (hu : I 33 9 = nI 16) : RnS xl xs 5 116 0 0 mX7_grant [.ref 33] n I J X (some (.int (nI w))) n (wr (wr (wr (wr (wr (setI I 37 (shA (I 37) 15)) 33 9 (nI 15)) 37 15 (nI he)) 33 9 (nI 16)) 33 7 (nI w)) 33 16 0) J X := by
  intro S T Q hQ
  have hw := mdO_lt ho
  have h64 := p2_le hm.2.2.1
  have hhe := hm.2.2.2.2.2.2.2.2.2.1
  have hd : mdF I J t sl wy wi he sg = nI w := by unfold mdF; rw [if_pos hf, ho]; rfl
  show Ev xl xs 5 116 0 0 mX7_grant 0 [some (.ref 33), none, none] [] n (sysH (ov I S) (ovJ J T) X) Q
  have lp : ∀ j k, k + j = 15 → ∀ S T, Ev xl xs 5 116 0 0 mX7_grant 22 [some (.ref 33), some (.int (nI w)), some (.int (nI (k + 1)))] [] n (sysH (ov (setI I 37 (shA (I 37) k)) S) (ovJ J T) X) Q := by
    intro j
    induction j using Nat.strongRecOn with
    | _ j ih =>
      intro k hk S T
      have e : ∀ h1, _ := fun (h1 : j - 1 < j) => ih (j - 1) h1 (k + 1)
      by_cases hk15 : k = 15
      · subst hk15
        refine ev_iload_n (q := 23) dX7_grant_22 rfl rfl ?_
        refine ev_bipush (q := 25) (16) dX7_grant_23 (by decide) rfl ?_
        refine ev_icmp_ge (q := 28) 48 dX7_grant_25 (by decide) rfl (fun c_25 => ?_) (fun c_25 => ?_)
        · refine ev_aload_n (q := 49) dX7_grant_48 rfl rfl ?_
          refine ev_dup (q := 50) (fun _ => rfl) dX7_grant_49 rfl ?_
          refine ev_get (q := 53) dX7_grant_50 fr_X7_84 rfl (lt_n hn (by decide)) rfl rfl ?_
          refine ev_iconst (q := 54) (1) dX7_grant_53 (by decide) rfl ?_
          refine ev_isub (q := 55) dX7_grant_54 rfl ?_
          rw [show ov (setI I 37 (shA (I 37) 15)) S 33 9 - 1 = nI 15 from by rw [show ov (setI I 37 (shA (I 37) 15)) S 33 9 = nI 16 from hu]; rfl]
          first | refine ev_putIK (q := 58) dX7_grant_55 fa_X7_84 rfl (by decide) (lt_n hn (by decide)) (Nat.le_of_ble_eq_true rfl) ⟨rfl, rfl⟩ rfl rfl rfl ?_ | refine ev_putIR (q := 58) dX7_grant_55 fa_X7_84 rfl (by decide) (lt_n hn (by decide)) (Nat.le_of_ble_eq_true rfl) ⟨rfl, rfl⟩ rfl rfl rfl ?_
          refine ev_aload_n (q := 59) dX7_grant_58 rfl rfl ?_
          refine ev_get (q := 62) dX7_grant_59 fr_X7_23 rfl (lt_n hn (by decide)) rfl rfl ?_
          refine ev_aload_n (q := 63) dX7_grant_62 rfl rfl ?_
          refine ev_get (q := 66) dX7_grant_63 fr_X7_84 rfl (lt_n hn (by decide)) rfl rfl ?_
          refine ev_aload_n (q := 67) dX7_grant_66 rfl rfl ?_
          refine ev_get (q := 70) dX7_grant_67 fr_X7_73 rfl (lt_n hn (by decide)) rfl rfl ?_
          rw [show ov (wr (setI I 37 (shA (I 37) 15)) 33 9 (nI 15)) S 33 7 = nI he from hhe]
          first | refine ev_isK (q := 71) 15 dX7_grant_70 rfl rfl (by decide) (lt_n hn (by decide)) rfl rfl ?_ | refine ev_isR (q := 71) 15 dX7_grant_70 rfl rfl (by decide) (lt_n hn (by decide)) rfl rfl ?_
          refine ev_aload_n (q := 72) dX7_grant_71 rfl rfl ?_
          refine ev_dup (q := 73) (fun _ => rfl) dX7_grant_72 rfl ?_
          refine ev_get (q := 76) dX7_grant_73 fr_X7_84 rfl (lt_n hn (by decide)) rfl rfl ?_
          refine ev_iconst (q := 77) (1) dX7_grant_76 (by decide) rfl ?_
          refine ev_iadd (q := 78) dX7_grant_77 rfl ?_
          rw [show ov (wr (wr (setI I 37 (shA (I 37) 15)) 33 9 (nI 15)) 37 15 (nI he)) S 33 9 + 1 = nI 16 from rfl]
          first | refine ev_putIK (q := 81) dX7_grant_78 fa_X7_84 rfl (by decide) (lt_n hn (by decide)) (Nat.le_of_ble_eq_true rfl) ⟨rfl, rfl⟩ rfl rfl rfl ?_ | refine ev_putIR (q := 81) dX7_grant_78 fa_X7_84 rfl (by decide) (lt_n hn (by decide)) (Nat.le_of_ble_eq_true rfl) ⟨rfl, rfl⟩ rfl rfl rfl ?_
          refine ev_aload_n (q := 82) dX7_grant_81 rfl rfl ?_
          refine ev_iload_n (q := 83) dX7_grant_82 rfl rfl ?_
          first | refine ev_putIK (q := 86) dX7_grant_83 fa_X7_73 rfl (by decide) (lt_n hn (by decide)) (Nat.le_of_ble_eq_true rfl) ⟨rfl, rfl⟩ rfl rfl rfl ?_ | refine ev_putIR (q := 86) dX7_grant_83 fa_X7_73 rfl (by decide) (lt_n hn (by decide)) (Nat.le_of_ble_eq_true rfl) ⟨rfl, rfl⟩ rfl rfl rfl ?_
          refine ev_aload_n (q := 87) dX7_grant_86 rfl rfl ?_
          refine ev_iconst (q := 88) (0) dX7_grant_87 (by decide) rfl ?_
          first | refine ev_putIK (q := 91) dX7_grant_88 fa_X7_121 rfl (by decide) (lt_n hn (by decide)) (Nat.le_of_ble_eq_true rfl) ⟨rfl, rfl⟩ rfl rfl rfl ?_ | refine ev_putIR (q := 91) dX7_grant_88 fa_X7_121 rfl (by decide) (lt_n hn (by decide)) (Nat.le_of_ble_eq_true rfl) ⟨rfl, rfl⟩ rfl rfl rfl ?_
          refine ev_iload_n (q := 92) dX7_grant_91 rfl rfl ?_
          exact ev_iretE dX7_grant_92 rfl rfl rfl rfl rfl (hQ _ _)
        · exact absurd (show (16 : Int32) ≤ nI (15 + 1) by decide) c_25
      · refine ev_iload_n (q := 23) dX7_grant_22 rfl rfl ?_
        refine ev_bipush (q := 25) (16) dX7_grant_23 (by decide) rfl ?_
        refine ev_icmp_ge (q := 28) 48 dX7_grant_25 (by decide) rfl (fun c_25 => ?_) (fun c_25 => ?_)
        · exact absurd ((nI_leI (a := 16) (by omega) (by omega)).mp c_25) (by omega)
        · refine ev_aload_n (q := 29) dX7_grant_28 rfl rfl ?_
          refine ev_get (q := 32) dX7_grant_29 fr_X7_23 rfl (lt_n hn (by decide)) rfl rfl ?_
          refine ev_iload_n (q := 33) dX7_grant_32 rfl rfl ?_
          refine ev_iconst (q := 34) (1) dX7_grant_33 (by decide) rfl ?_
          refine ev_isub (q := 35) dX7_grant_34 rfl ?_
          refine ev_aload_n (q := 36) dX7_grant_35 rfl rfl ?_
          refine ev_get (q := 39) dX7_grant_36 fr_X7_23 rfl (lt_n hn (by decide)) rfl rfl ?_
          refine ev_iload_n (q := 40) dX7_grant_39 rfl rfl ?_
          refine ev_iaS (q := 41) (k + 1) dX7_grant_40 rfl rfl (by omega) (lt_n hn (by decide)) rfl ?_
          first | refine ev_isK (q := 42) k dX7_grant_41 (nI_pred k) rfl (by omega) (lt_n hn (by decide)) rfl rfl ?_ | refine ev_isR (q := 42) k dX7_grant_41 (nI_pred k) rfl (by omega) (lt_n hn (by decide)) rfl rfl ?_
          rw [show ov (setI I 37 (shA (I 37) k)) S 37 (k + 1) = setI I 37 (shA (I 37) k) 37 (k + 1) from rfl]
          rw [show setI (setI I 37 (shA (I 37) k)) 37 (upd (setI I 37 (shA (I 37) k) 37) k (setI I 37 (shA (I 37) k) 37 (k + 1))) = setI I 37 (shA (I 37) (k + 1)) from by rw [setI_setI]; exact congrArg (setI I 37) (shA_s (I 37) k)]
          refine ev_inc_2 (q := 45) (nI (k + 1 + 1)) dX7_grant_42 (nI_1 (k + 1)) rfl rfl ?_
          refine ev_goto 22 dX7_grant_45 (by decide) ?_
          exact e (by omega) (by omega) _ _
  refine ev_aload_n (q := 1) dX7_grant_0 rfl rfl ?_
  refine ev_callV0iP (q := 4) dX7_grant_1 ca_X7_175 (s_X7_made hn hm hsg h40) rfl (lt_n hn (by decide)) rfl rfl (Nat.le_of_ble_eq_true rfl) (Nat.le_of_ble_eq_true rfl) (by decide) (by decide) rfl (fun S T hp_1 => ?_)
  rw [hd]
  refine ev_ist_1 (q := 5) dX7_grant_4 rfl rfl ?_
  refine ev_iload_n (q := 6) dX7_grant_5 rfl rfl ?_
  refine ev_if_ge (q := 9) 11 dX7_grant_6 (by decide) rfl (fun c_6 => ?_) (fun c_6 => ?_)
  · refine ev_aload_n (q := 12) dX7_grant_11 rfl rfl ?_
    refine ev_get (q := 15) dX7_grant_12 fr_X7_84 rfl (lt_n hn (by decide)) rfl rfl ?_
    rw [show ov I S 33 9 = nI 16 from hu]
    refine ev_bipush (q := 17) (16) dX7_grant_15 (by decide) rfl ?_
    refine ev_icmp_ne (q := 20) 58 dX7_grant_17 (by decide) rfl (fun c_17 => ?_) (fun c_17 => ?_)
    · exact absurd rfl c_17
    · refine ev_iconst (q := 21) (1) dX7_grant_20 (by decide) rfl ?_
      refine ev_ist_2 (q := 22) dX7_grant_21 rfl rfl ?_
      have e := lp 15 0 (by omega) S T
      rw [shA_0, setI_self] at e
      exact e
  · exact absurd (nI_pos' (by omega)) c_6
end MODEL17
