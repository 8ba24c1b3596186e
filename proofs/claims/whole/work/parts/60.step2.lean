theorem wb9_in {v : Int32} (h : inb v (-9) 9 = true) : wb9 v := by
  simp only [inb, Bool.and_eq_true, decide_eq_true_eq, i_le] at h
  exact ⟨h.1, h.2⟩
theorem upd_w9 {A B : Nat → Int32} {N q : Nat} {v : Int32} (h : ∀ j, j < N → A j = B j ∧ wb9 (B j)) (hv : wb9 v) : ∀ j, j < N → upd A q v j = upd B q v j ∧ wb9 (upd B q v j) := by
  intro j hj
  by_cases e : j = q
  · rw [e, pk_us, pk_us]; exact ⟨rfl, hv⟩
  · rw [pk_un e, pk_un e]; exact h j hj
theorem mdO_ag {I I' : Nat → Nat → Int32} {J : Nat → Nat → Int64} {t sl wy wi he sg : Nat} (e1 : I' 34 = I 34) (e2 : I' 35 = I 35) (e3 : I' 41 = I 41) : mdO I' J t sl wy wi he sg = mdO I J t sl wy wi he sg := by
  have : lkF I' t wy wi he = lkF I t wy wi he := by funext w; unfold lkF; rw [e1, e2]
  unfold mdO kpL
  rw [this, e3]
theorem inb_world {v : Int32} {t : Nat} (h6 : t ≤ 6) (h : inb v 0 (nI (2 ^ t) - 1) = true) : ∃ w, w < 2 ^ t ∧ v = nI w := inb_nat (by have := p2_le h6; omega) h (Nat.pow_pos (by decide))
theorem IMGS_g {n : Nat} {I I' : Nat → Nat → Int32} {J J' : Nat → Nat → Int64} {X : Nat → Option Nat} (h : IMGS n I J X) (h46 : I' 46 = I 46) (h48 : I' 48 = I 48) (h47 : J' 47 = J 47) (hI : ∀ q, 49 ≤ q → I' q = I q) (hJ : ∀ q, 49 ≤ q → J' q = J q) : IMGS n I' J' X := IMGS_ag h46 h48 h47 hI hJ h
section STEP2
variable {xl : Nat} {xs : Nat → Int32} {n : Nat} {I : Nat → Nat → Int32} {J : Nat → Nat → Int64} {X : Nat → Option Nat}
theorem st_told (a : Int32) (hG : GI n I J X) : ∃ r, Both xl xs 2 42 mX6_told 2 46 mX7_told [.int a] n I J X (.int r) := by
  have hG0 := hG
  obtain ⟨t, sl, wy, wi, he, u, P, c, sg, ⟨hk, hu, hft, hcm⟩, ht, hp, hpw, him⟩ := hG
  have hn := IMGS_n him
  have h6 := hk.1.2.2.1
  have ht2 := hk.1.2.1
  have h64 := p2_le h6
  have hpos : 0 < 2 ^ t := Nat.pow_pos (by decide)
  cases hv : inb a 0 69 with
  | false => exact ⟨_, bothS (k_X6_told_f hn hv) (s_X7_told_f hn hv) hG0⟩
  | true =>
    obtain ⟨k, -, hk9, rfl⟩ := inb_lo (lo := 0) (hi := 69) (by decide) hv (by decide)
    by_cases h30 : 30 ≤ k
    · rw [show k = 10 * ((k / 10 - 3) + 3) + k % 10 by omega]
      exact ⟨_, bothS (k_X6_told_w hn hk (by omega) (by omega)) (s_X7_told_w hn hk.1 (by omega) (by omega)) hG0⟩
    · by_cases h20 : 20 ≤ k
      · rw [show k = 20 + (k - 20) by omega]
        exact ⟨_, bothS (k_X6_told_s hn hk (by omega)) (s_X7_told_s hn hk.1 (by omega)) hG0⟩
      · by_cases h10 : 10 ≤ k
        · rw [show k = 10 + (k - 10) by omega]
          exact ⟨_, bothS (k_X6_told_t hn hk (by omega)) (s_X7_told_t hn hk.1 (by omega)) hG0⟩
        · by_cases h9 : k = 9
          · subst h9
            have hc := k_X6_told_9 (xl := xl) (xs := xs) (I := I) (J := J) (X := X) hn
            have e : upto (fun w c => c + b2i (lbit (J 33 8) w)) (2 ^ t) 0 = nI (cN (lbit (J 1 5)) 64) := by
              rw [upto_cN, hk.2.2.1.1]
              exact congrArg nI (cN_top h64 hk.2.2.1.2).symm
            have hm := s_X7_told_9 (xl := xl) (xs := xs) (J := J) (X := X) hn hk.1
            rw [e] at hm
            exact ⟨_, bothS hc hm hG0⟩
          · have e : tdC I k = tdP I k := by
              have : k < 9 := by omega
              match k, this with
              | 0, _ => exact hp.2.1.trans hp.1.symm
              | 1, _ => exact hk.2.1.1.trans hk.1.1.symm
              | 2, _ => exact hk.2.1.2.1.trans hk.1.2.2.2.2.2.2.2.2.2.1.symm
              | 3, _ => exact hk.2.1.2.2.1.trans hk.1.2.2.2.2.2.1.symm
              | 4, _ => exact hk.2.1.2.2.2.1.trans hk.1.2.2.2.2.2.2.2.1.symm
              | 5, _ => exact hk.2.1.2.2.2.2.trans hk.1.2.2.2.1.symm
              | 6, _ => exact hu.2.2.1.trans hu.2.1.symm
              | 7, _ => exact hft.2.2.1.trans hft.2.1.symm
              | 8, _ => exact hcm.2.2.1.trans hcm.2.1.symm
            have hc := k_X6_told_p (xl := xl) (xs := xs) (I := I) (J := J) (X := X) (k := k) hn (by omega)
            rw [e] at hc
            exact ⟨_, bothS hc (s_X7_told_p hn (by omega)) hG0⟩
theorem st_worth (a b d : Int32) (hG : GI n I J X) : ∃ r, Both xl xs 1 21 mX6_worth 2 43 mX7_worth [.int a, .int b, .int d] n I J X (.int r) := by
  have hG0 := hG
  obtain ⟨t, sl, wy, wi, he, u, P, c, sg, ⟨hk, hu, hft, hcm⟩, ht, hp, hpw, him⟩ := hG
  have hn := IMGS_n him
  have h6 := hk.1.2.2.1
  have ht2 := hk.1.2.1
  have h64 := p2_le h6
  have hpos : 0 < 2 ^ t := Nat.pow_pos (by decide)
  cases hv : (inb a 0 3 && inb b 0 (nI t - 1)) with
  | false => exact ⟨_, bothS (k_X6_worth_u hn hk hv) (s_X7_worth_u hn hk.1 hv) hG0⟩
  | true =>
    obtain ⟨h1, h2⟩ := Bool.and_eq_true_iff.mp hv
    cases hd : inb d (-9) 9 with
    | false => exact ⟨_, bothS (k_X6_worth_o hn hk h1 h2 hd) (s_X7_worth_o hn hk.1 h1 h2 hd) hG0⟩
    | true =>
      obtain ⟨cn, -, hcn, rfl⟩ := inb_lo (lo := 0) (hi := 3) (by decide) h1 (by decide)
      obtain ⟨k, hkt, rfl⟩ := inb_nat (by omega) h2 (by omega)
      have hc := k_X6_worth (xl := xl) (xs := xs) (X := X) hn hk (show cn < 4 by omega) hkt hd h1 h2
      rw [(hk.2.2.2.1 (6 * cn + k) (by omega)).1] at hc
      exact ⟨_, bothS hc (s_X7_worth (I := wr I 2 (6 * cn + k) d) (J := J) hn hk.1 (by omega) hkt hd h1 h2) ⟨t, sl, wy, wi, he, u, P, c, sg, ⟨⟨hk.1, hk.2.1, hk.2.2.1, upd_w9 hk.2.2.2.1 (wb9_in hd), hk.2.2.2.2.1, hk.2.2.2.2.2⟩, UN_ag hu rfl rfl rfl rfl, FTI_ag hft rfl rfl rfl rfl rfl, CMI_ag hcm rfl rfl rfl rfl rfl⟩, TOK_ag ht rfl rfl rfl rfl rfl, PdI_ag hp rfl rfl rfl rfl, PW_ag hpw rfl, IMGS_g him rfl rfl rfl (fun q hq => by simp [setI, show q ≠ 1 by omega, show q ≠ 2 by omega, show q ≠ 3 by omega, show q ≠ 4 by omega, show q ≠ 5 by omega, show q ≠ 7 by omega, show q ≠ 8 by omega, show q ≠ 10 by omega, show q ≠ 11 by omega, show q ≠ 33 by omega, show q ≠ 34 by omega, show q ≠ 35 by omega, show q ≠ 36 by omega, show q ≠ 37 by omega, show q ≠ 39 by omega, show q ≠ 40 by omega, show q ≠ 41 by omega]) (fun _ _ => rfl)⟩⟩
theorem st_taste (a b : Int32) (hG : GI n I J X) : ∃ r, Both xl xs 1 21 mX6_taste 2 43 mX7_taste [.int a, .int b] n I J X (.int r) := by
  have hG0 := hG
  obtain ⟨t, sl, wy, wi, he, u, P, c, sg, ⟨hk, hu, hft, hcm⟩, ht, hp, hpw, him⟩ := hG
  have hn := IMGS_n him
  have h6 := hk.1.2.2.1
  have ht2 := hk.1.2.1
  have h64 := p2_le h6
  have hpos : 0 < 2 ^ t := Nat.pow_pos (by decide)
  cases hv : inb a 0 (nI t - 1) with
  | false => exact ⟨_, bothS (k_X6_taste_u hn hk hv) (s_X7_taste_u hn hk.1 hv) hG0⟩
  | true =>
    cases hd : inb b (-9) 9 with
    | false => exact ⟨_, bothS (k_X6_taste_o hn hk hv hd) (s_X7_taste_o hn hk.1 hv hd) hG0⟩
    | true =>
      obtain ⟨k, hkt, rfl⟩ := inb_nat (by omega) hv (by omega)
      have hc := k_X6_taste (xl := xl) (xs := xs) (X := X) hn hk hkt hd hv
      rw [(hk.2.2.2.2.1 k (by omega)).1] at hc
      exact ⟨_, bothS hc (s_X7_taste (I := wr I 3 k b) (J := J) hn hk.1 hkt hd hv) ⟨t, sl, wy, wi, he, u, P, c, sg, ⟨⟨hk.1, hk.2.1, hk.2.2.1, hk.2.2.2.1, upd_w9 hk.2.2.2.2.1 (wb9_in hd), hk.2.2.2.2.2⟩, UN_ag hu rfl rfl rfl rfl, FTI_ag hft rfl rfl rfl rfl rfl, CMI_ag hcm rfl rfl rfl rfl rfl⟩, TOK_ag ht rfl rfl rfl rfl rfl, PdI_ag hp rfl rfl rfl rfl, PW_ag hpw rfl, IMGS_g him rfl rfl rfl (fun q hq => by simp [setI, show q ≠ 1 by omega, show q ≠ 2 by omega, show q ≠ 3 by omega, show q ≠ 4 by omega, show q ≠ 5 by omega, show q ≠ 7 by omega, show q ≠ 8 by omega, show q ≠ 10 by omega, show q ≠ 11 by omega, show q ≠ 33 by omega, show q ≠ 34 by omega, show q ≠ 35 by omega, show q ≠ 36 by omega, show q ≠ 37 by omega, show q ≠ 39 by omega, show q ≠ 40 by omega, show q ≠ 41 by omega]) (fun _ _ => rfl)⟩⟩
theorem st_set (a b : Int32) (hG : GI n I J X) : ∃ r, Both xl xs 0 0 mX6_set 1 22 mX7_set [.int a, .int b] n I J X (.int r) := by
  have hG0 := hG
  obtain ⟨t, sl, wy, wi, he, u, P, c, sg, ⟨hk, hu, hft, hcm⟩, ht, hp, hpw, him⟩ := hG
  have hn := IMGS_n him
  have h6 := hk.1.2.2.1
  have ht2 := hk.1.2.1
  have h64 := p2_le h6
  have hpos : 0 < 2 ^ t := Nat.pow_pos (by decide)
  by_cases h0 : a = 0
  · subst h0
    cases hv : inb b 0 2 with
    | false =>
      have hs : setF 0 b = false := by unfold setF; simp [hv]
      exact ⟨_, bothS (k_X6_set_f hn hs) (s_X7_set_f hn hs) hG0⟩
    | true =>
      obtain ⟨w, -, hw, rfl⟩ := inb_lo (lo := 0) (hi := 2) (by decide) hv (by decide)
      have hc := k_X6_set_0 (xl := xl) (xs := xs) (I := I) (J := J) (X := X) hn hv
      rw [hk.2.1.2.2.1] at hc
      have hm := s_X7_set_0 (xl := xl) (xs := xs) (I := wr I 1 2 (nI w)) (J := J) (X := X) hn hv
      rw [show wr I 1 2 (nI w) 33 4 = _ from hk.1.2.2.2.2.2.1] at hm
      exact ⟨_, bothS hc hm ⟨t, sl, w, wi, he, u, P, c, sg, ⟨⟨⟨hk.1.1, hk.1.2.1, hk.1.2.2.1, hk.1.2.2.2.1, hk.1.2.2.2.2.1, rfl, by omega, hk.1.2.2.2.2.2.2.2.1, hk.1.2.2.2.2.2.2.2.2.1, hk.1.2.2.2.2.2.2.2.2.2.1, hk.1.2.2.2.2.2.2.2.2.2.2⟩, ⟨hk.2.1.1, hk.2.1.2.1, rfl, hk.2.1.2.2.2.1, hk.2.1.2.2.2.2⟩, hk.2.2.1, hk.2.2.2.1, hk.2.2.2.2.1, hk.2.2.2.2.2⟩, UN_ag hu rfl rfl rfl rfl, FTI_ag hft rfl rfl rfl rfl rfl, CMI_ag hcm rfl rfl rfl rfl rfl⟩, TOK_ag ht rfl rfl rfl rfl rfl, PdI_ag hp rfl rfl rfl rfl, PW_ag hpw rfl, IMGS_g him rfl rfl rfl (fun q hq => by simp [setI, show q ≠ 1 by omega, show q ≠ 2 by omega, show q ≠ 3 by omega, show q ≠ 4 by omega, show q ≠ 5 by omega, show q ≠ 7 by omega, show q ≠ 8 by omega, show q ≠ 10 by omega, show q ≠ 11 by omega, show q ≠ 33 by omega, show q ≠ 34 by omega, show q ≠ 35 by omega, show q ≠ 36 by omega, show q ≠ 37 by omega, show q ≠ 39 by omega, show q ≠ 40 by omega, show q ≠ 41 by omega]) (fun _ _ => rfl)⟩⟩
  · by_cases h1 : a = 1
    · subst h1
      cases hv : inb b 0 3 with
      | false =>
        have hs : setF 1 b = false := by unfold setF; simp [hv]
        exact ⟨_, bothS (k_X6_set_f hn hs) (s_X7_set_f hn hs) hG0⟩
      | true =>
        obtain ⟨w, -, hw, rfl⟩ := inb_lo (lo := 0) (hi := 3) (by decide) hv (by decide)
        have hc := k_X6_set_1 (xl := xl) (xs := xs) (I := I) (J := J) (X := X) hn hv
        rw [hk.2.1.2.2.2.1] at hc
        have hm := s_X7_set_1 (xl := xl) (xs := xs) (I := wr I 1 3 (nI w)) (J := J) (X := X) hn hv
        rw [show wr I 1 3 (nI w) 33 5 = _ from hk.1.2.2.2.2.2.2.2.1] at hm
        exact ⟨_, bothS hc hm ⟨t, sl, wy, w, he, u, P, c, sg, ⟨⟨⟨hk.1.1, hk.1.2.1, hk.1.2.2.1, hk.1.2.2.2.1, hk.1.2.2.2.2.1, hk.1.2.2.2.2.2.1, hk.1.2.2.2.2.2.2.1, rfl, by omega, hk.1.2.2.2.2.2.2.2.2.2.1, hk.1.2.2.2.2.2.2.2.2.2.2⟩, ⟨hk.2.1.1, hk.2.1.2.1, hk.2.1.2.2.1, rfl, hk.2.1.2.2.2.2⟩, hk.2.2.1, hk.2.2.2.1, hk.2.2.2.2.1, hk.2.2.2.2.2⟩, UN_ag hu rfl rfl rfl rfl, FTI_ag hft rfl rfl rfl rfl rfl, CMI_ag hcm rfl rfl rfl rfl rfl⟩, TOK_ag ht rfl rfl rfl rfl rfl, PdI_ag hp rfl rfl rfl rfl, PW_ag hpw rfl, IMGS_g him rfl rfl rfl (fun q hq => by simp [setI, show q ≠ 1 by omega, show q ≠ 2 by omega, show q ≠ 3 by omega, show q ≠ 4 by omega, show q ≠ 5 by omega, show q ≠ 7 by omega, show q ≠ 8 by omega, show q ≠ 10 by omega, show q ≠ 11 by omega, show q ≠ 33 by omega, show q ≠ 34 by omega, show q ≠ 35 by omega, show q ≠ 36 by omega, show q ≠ 37 by omega, show q ≠ 39 by omega, show q ≠ 40 by omega, show q ≠ 41 by omega]) (fun _ _ => rfl)⟩⟩
    · by_cases h2 : a = 2
      · subst h2
        cases hv : inb b 0 6 with
        | false =>
          have hs : setF 2 b = false := by unfold setF; simp [hv]
          exact ⟨_, bothS (k_X6_set_f hn hs) (s_X7_set_f hn hs) hG0⟩
        | true =>
          obtain ⟨w, -, hw, rfl⟩ := inb_lo (lo := 0) (hi := 6) (by decide) hv (by decide)
          have hc := k_X6_set_2 (xl := xl) (xs := xs) (I := I) (J := J) (X := X) hn hv
          rw [hk.2.1.2.2.2.2] at hc
          have hm := s_X7_set_2 (xl := xl) (xs := xs) (I := wr I 1 4 (nI w)) (J := J) (X := X) hn hv
          rw [show wr I 1 4 (nI w) 33 6 = _ from hk.1.2.2.2.1] at hm
          exact ⟨_, bothS hc hm ⟨t, w, wy, wi, he, u, P, c, sg, ⟨⟨⟨hk.1.1, hk.1.2.1, hk.1.2.2.1, rfl, by omega, hk.1.2.2.2.2.2.1, hk.1.2.2.2.2.2.2.1, hk.1.2.2.2.2.2.2.2.1, hk.1.2.2.2.2.2.2.2.2.1, hk.1.2.2.2.2.2.2.2.2.2.1, hk.1.2.2.2.2.2.2.2.2.2.2⟩, ⟨hk.2.1.1, hk.2.1.2.1, hk.2.1.2.2.1, hk.2.1.2.2.2.1, rfl⟩, hk.2.2.1, hk.2.2.2.1, hk.2.2.2.2.1, hk.2.2.2.2.2⟩, UN_ag hu rfl rfl rfl rfl, FTI_ag hft rfl rfl rfl rfl rfl, CMI_ag hcm rfl rfl rfl rfl rfl⟩, TOK_ag ht rfl rfl rfl rfl rfl, PdI_ag hp rfl rfl rfl rfl, PW_ag hpw rfl, IMGS_g him rfl rfl rfl (fun q hq => by simp [setI, show q ≠ 1 by omega, show q ≠ 2 by omega, show q ≠ 3 by omega, show q ≠ 4 by omega, show q ≠ 5 by omega, show q ≠ 7 by omega, show q ≠ 8 by omega, show q ≠ 10 by omega, show q ≠ 11 by omega, show q ≠ 33 by omega, show q ≠ 34 by omega, show q ≠ 35 by omega, show q ≠ 36 by omega, show q ≠ 37 by omega, show q ≠ 39 by omega, show q ≠ 40 by omega, show q ≠ 41 by omega]) (fun _ _ => rfl)⟩⟩
      · have hs : setF a b = false := by unfold setF; simp [h0, h1, h2]
        exact ⟨_, bothS (k_X6_set_f hn hs) (s_X7_set_f hn hs) hG0⟩
theorem st_now (a : Int32) (hG : GI n I J X) : ∃ r, Both xl xs 2 41 mX6_now 2 43 mX7_now [.int a] n I J X (.int r) := by
  have hG0 := hG
  obtain ⟨t, sl, wy, wi, he, u, P, c, sg, ⟨hk, hu, hft, hcm⟩, ht, hp, hpw, him⟩ := hG
  have hn := IMGS_n him
  have h6 := hk.1.2.2.1
  have ht2 := hk.1.2.1
  have h64 := p2_le h6
  have hpos : 0 < 2 ^ t := Nat.pow_pos (by decide)
  cases hv : inb a 0 (nI (2 ^ t) - 1) with
  | false => exact ⟨_, bothS (k_X6_now_f hn hk hv) (s_X7_now_f hn hk.1 hv) hG0⟩
  | true =>
    obtain ⟨w, hw, rfl⟩ := inb_world h6 hv
    have hc := k_X6_now (xl := xl) (xs := xs) (X := X) hn hk hv
    rw [hk.2.1.2.1] at hc
    have hm := s_X7_now (xl := xl) (xs := xs) (I := wr (wr I 1 1 (nI w)) 1 10 0) (J := J) (X := X) hn hk.1 hv
    rw [show wr (wr I 1 1 (nI w)) 1 10 0 33 7 = _ from hk.1.2.2.2.2.2.2.2.2.2.1] at hm
    exact ⟨_, bothS hc hm ⟨t, sl, wy, wi, w, 0, P, c, sg, ⟨⟨⟨hk.1.1, hk.1.2.1, hk.1.2.2.1, hk.1.2.2.2.1, hk.1.2.2.2.2.1, hk.1.2.2.2.2.2.1, hk.1.2.2.2.2.2.2.1, hk.1.2.2.2.2.2.2.2.1, hk.1.2.2.2.2.2.2.2.2.1, rfl, hw⟩, ⟨hk.2.1.1, rfl, hk.2.1.2.2.1, hk.2.1.2.2.2.1, hk.2.1.2.2.2.2⟩, hk.2.2.1, hk.2.2.2.1, hk.2.2.2.2.1, hk.2.2.2.2.2⟩, ⟨by omega, rfl, rfl, fun j hj => absurd hj (by omega)⟩, FTI_ag hft rfl rfl rfl rfl rfl, CMI_ag hcm rfl rfl rfl rfl rfl⟩, TOK_ag ht rfl rfl rfl rfl rfl, PdI_ag hp rfl rfl rfl rfl, PW_ag hpw rfl, IMGS_g him rfl rfl rfl (fun q hq => by simp [setI, show q ≠ 1 by omega, show q ≠ 2 by omega, show q ≠ 3 by omega, show q ≠ 4 by omega, show q ≠ 5 by omega, show q ≠ 7 by omega, show q ≠ 8 by omega, show q ≠ 10 by omega, show q ≠ 11 by omega, show q ≠ 33 by omega, show q ≠ 34 by omega, show q ≠ 35 by omega, show q ≠ 36 by omega, show q ≠ 37 by omega, show q ≠ 39 by omega, show q ≠ 40 by omega, show q ≠ 41 by omega]) (fun _ _ => rfl)⟩⟩
theorem st_say (a : Int32) (hG : GI n I J X) : ∃ r, Both xl xs 1 21 mX6_say 1 22 mX7_say [.int a] n I J X (.int r) := by
  have hG0 := hG
  obtain ⟨t, sl, wy, wi, he, u, P, c, sg, ⟨hk, hu, hft, hcm⟩, ht, hp, hpw, him⟩ := hG
  have hn := IMGS_n him
  have h6 := hk.1.2.2.1
  have ht2 := hk.1.2.1
  have h64 := p2_le h6
  have hpos : 0 < 2 ^ t := Nat.pow_pos (by decide)
  cases hv : inb a 33 126 with
  | false => exact ⟨_, bothS (k_X6_say_f hn hv) (s_X7_say_f hn hv) hG0⟩
  | true =>
    have h40 := hp.2.2.1
    by_cases hs : sg = 40
    · subst hs
      exact ⟨_, bothS (k_X6_say_40 hn hv hp.2.1) (s_X7_say_40 hn hv hp.1) hG0⟩
    · exact ⟨_, bothS (k_X6_say hn hv hp.2.1 (by omega)) (s_X7_say (I := wr (wr I 11 sg a) 10 1 (nI (sg + 1))) (J := J) hn hv hp.1 (by omega)) ⟨t, sl, wy, wi, he, u, P, c, sg + 1, ⟨⟨hk.1, hk.2.1, hk.2.2.1, hk.2.2.2.1, hk.2.2.2.2.1, hk.2.2.2.2.2⟩, UN_ag hu rfl rfl rfl rfl, FTI_ag hft rfl rfl rfl rfl rfl, CMI_ag hcm rfl rfl rfl rfl rfl⟩, TOK_ag ht rfl rfl rfl rfl rfl, ⟨rfl, rfl, by omega, fun j hj => by show upd (I 11) sg a j = upd (I 41) sg a j; by_cases e : j = sg; (rw [e, pk_us, pk_us]); (rw [pk_un e, pk_un e]; exact hp.2.2.2 j hj)⟩, PW_ag hpw rfl, IMGS_g him rfl rfl rfl (fun q hq => by simp [setI, show q ≠ 1 by omega, show q ≠ 2 by omega, show q ≠ 3 by omega, show q ≠ 4 by omega, show q ≠ 5 by omega, show q ≠ 7 by omega, show q ≠ 8 by omega, show q ≠ 10 by omega, show q ≠ 11 by omega, show q ≠ 33 by omega, show q ≠ 34 by omega, show q ≠ 35 by omega, show q ≠ 36 by omega, show q ≠ 37 by omega, show q ≠ 39 by omega, show q ≠ 40 by omega, show q ≠ 41 by omega]) (fun _ _ => rfl)⟩⟩
theorem st_wipe (hG : GI n I J X) : ∃ r, Both xl xs 1 21 mX6_wipe 0 0 mX7_wipe [] n I J X (.int r) := by
  have hG0 := hG
  obtain ⟨t, sl, wy, wi, he, u, P, c, sg, ⟨hk, hu, hft, hcm⟩, ht, hp, hpw, him⟩ := hG
  have hn := IMGS_n him
  have h6 := hk.1.2.2.1
  have ht2 := hk.1.2.1
  have h64 := p2_le h6
  have hpos : 0 < 2 ^ t := Nat.pow_pos (by decide)
  have hc := k_X6_wipe (xl := xl) (xs := xs) (I := I) (J := J) (X := X) hn
  rw [hp.2.1] at hc
  have hm := s_X7_wipe (xl := xl) (xs := xs) (I := wr I 10 1 0) (J := J) (X := X) hn
  rw [show wr I 10 1 0 33 16 = _ from hp.1] at hm
  exact ⟨_, bothS hc hm ⟨t, sl, wy, wi, he, u, P, c, 0, ⟨⟨hk.1, hk.2.1, hk.2.2.1, hk.2.2.2.1, hk.2.2.2.2.1, hk.2.2.2.2.2⟩, UN_ag hu rfl rfl rfl rfl, FTI_ag hft rfl rfl rfl rfl rfl, CMI_ag hcm rfl rfl rfl rfl rfl⟩, TOK_ag ht rfl rfl rfl rfl rfl, ⟨rfl, rfl, by omega, hp.2.2.2⟩, PW_ag hpw rfl, IMGS_g him rfl rfl rfl (fun q hq => by simp [setI, show q ≠ 1 by omega, show q ≠ 2 by omega, show q ≠ 3 by omega, show q ≠ 4 by omega, show q ≠ 5 by omega, show q ≠ 7 by omega, show q ≠ 8 by omega, show q ≠ 10 by omega, show q ≠ 11 by omega, show q ≠ 33 by omega, show q ≠ 34 by omega, show q ≠ 35 by omega, show q ≠ 36 by omega, show q ≠ 37 by omega, show q ≠ 39 by omega, show q ≠ 40 by omega, show q ≠ 41 by omega]) (fun _ _ => rfl)⟩⟩
theorem st_enact (hG : GI n I J X) : ∃ r, Both xl xs 3 67 mX6_enact 3 69 mX7_enact [] n I J X (.int r) := by
  have hG0 := hG
  obtain ⟨t, sl, wy, wi, he, u, P, c, sg, ⟨hk, hu, hft, hcm⟩, ht, hp, hpw, him⟩ := hG
  have hn := IMGS_n him
  have h6 := hk.1.2.2.1
  have ht2 := hk.1.2.1
  have h64 := p2_le h6
  have hpos : 0 < 2 ^ t := Nat.pow_pos (by decide)
  by_cases hf : ffP I t sg = -6
  · have hm := s_X7_enact_t (xl := xl) (xs := xs) (I := wr I 10 1 0) (J := wrJ J 1 5 (soS I t sg he)) (X := X) hn hk.1 hp.1 hp.2.2.1 hf
    exact ⟨_, bothS (k_X6_enact_t hn hk hp hf) hm ⟨t, sl, wy, wi, he, u, P, c, 0, ⟨⟨hk.1, hk.2.1, ⟨rfl, fun w hw => mk64_hi h64 hw⟩, hk.2.2.2.1, hk.2.2.2.2.1, hk.2.2.2.2.2⟩, UN_ag hu rfl rfl rfl rfl, FTI_ag hft rfl rfl rfl rfl rfl, CMI_ag hcm rfl rfl rfl rfl rfl⟩, TOK_ag ht rfl rfl rfl rfl rfl, ⟨rfl, rfl, by omega, hp.2.2.2⟩, PW_ag hpw rfl, IMGS_g him rfl rfl rfl (fun q hq => by simp [setI, show q ≠ 1 by omega, show q ≠ 2 by omega, show q ≠ 3 by omega, show q ≠ 4 by omega, show q ≠ 5 by omega, show q ≠ 7 by omega, show q ≠ 8 by omega, show q ≠ 10 by omega, show q ≠ 11 by omega, show q ≠ 33 by omega, show q ≠ 34 by omega, show q ≠ 35 by omega, show q ≠ 36 by omega, show q ≠ 37 by omega, show q ≠ 39 by omega, show q ≠ 40 by omega, show q ≠ 41 by omega]) (fun q hq => by simp [setJ, fillJ, show q ≠ 1 by omega, show q ≠ 6 by omega, show q ≠ 33 by omega, show q ≠ 38 by omega])⟩⟩
  · exact ⟨_, bothS (k_X6_enact_f hn hk hp hf) (s_X7_enact_f hn hk.1 hp.1 hp.2.2.1 hf) hG0⟩
theorem st_undo (hG : GI n I J X) : ∃ r, Both xl xs 0 0 mX6_undo 0 0 mX7_undo [] n I J X (.int r) := by
  have hG0 := hG
  obtain ⟨t, sl, wy, wi, he, u, P, c, sg, ⟨hk, hu, hft, hcm⟩, ht, hp, hpw, him⟩ := hG
  have hn := IMGS_n him
  have h6 := hk.1.2.2.1
  have ht2 := hk.1.2.1
  have h64 := p2_le h6
  have hpos : 0 < 2 ^ t := Nat.pow_pos (by decide)
  cases u with
  | zero => exact ⟨_, bothS (k_X6_undo_0 hn hu.2.2.1) (s_X7_undo_0 hn hu.2.1) hG0⟩
  | succ u =>
    obtain ⟨u1, u2, u3, u4⟩ := hu
    obtain ⟨v1, w, hw, v2⟩ := u4 u (by omega)
    have hc := k_X6_undo (xl := xl) (xs := xs) (J := J) (X := X) hn u3 (by omega)
    rw [v1, v2] at hc
    have hm := s_X7_undo (xl := xl) (xs := xs) (I := wr (wr I 1 10 (nI u)) 1 1 (nI w)) (J := J) (X := X) hn u2 (by omega)
    rw [show wr (wr I 1 10 (nI u)) 1 1 (nI w) 37 u = nI w from v2] at hm
    exact ⟨_, bothS hc hm ⟨t, sl, wy, wi, w, u, P, c, sg, ⟨⟨⟨hk.1.1, hk.1.2.1, hk.1.2.2.1, hk.1.2.2.2.1, hk.1.2.2.2.2.1, hk.1.2.2.2.2.2.1, hk.1.2.2.2.2.2.2.1, hk.1.2.2.2.2.2.2.2.1, hk.1.2.2.2.2.2.2.2.2.1, rfl, hw⟩, ⟨hk.2.1.1, rfl, hk.2.1.2.2.1, hk.2.1.2.2.2.1, hk.2.1.2.2.2.2⟩, hk.2.2.1, hk.2.2.2.1, hk.2.2.2.2.1, hk.2.2.2.2.2⟩, ⟨by omega, rfl, rfl, fun j hj => u4 j (by omega)⟩, FTI_ag hft rfl rfl rfl rfl rfl, CMI_ag hcm rfl rfl rfl rfl rfl⟩, TOK_ag ht rfl rfl rfl rfl rfl, PdI_ag hp rfl rfl rfl rfl, PW_ag hpw rfl, IMGS_g him rfl rfl rfl (fun q hq => by simp [setI, show q ≠ 1 by omega, show q ≠ 2 by omega, show q ≠ 3 by omega, show q ≠ 4 by omega, show q ≠ 5 by omega, show q ≠ 7 by omega, show q ≠ 8 by omega, show q ≠ 10 by omega, show q ≠ 11 by omega, show q ≠ 33 by omega, show q ≠ 34 by omega, show q ≠ 35 by omega, show q ≠ 36 by omega, show q ≠ 37 by omega, show q ≠ 39 by omega, show q ≠ 40 by omega, show q ≠ 41 by omega]) (fun _ _ => rfl)⟩⟩
theorem st_grant (hG : GI n I J X) : ∃ r, Both xl xs 5 116 mX6_grant 5 116 mX7_grant [] n I J X (.int r) := by
  have hG0 := hG
  obtain ⟨t, sl, wy, wi, he, u, P, c, sg, ⟨hk, hu, hft, hcm⟩, ht, hp, hpw, him⟩ := hG
  have hn := IMGS_n him
  have h6 := hk.1.2.2.1
  have ht2 := hk.1.2.1
  have h64 := p2_le h6
  have hpos : 0 < 2 ^ t := Nat.pow_pos (by decide)
  have hhl := hk.1.2.2.2.2.2.2.2.2.2.2
  by_cases hf : ffP I t sg = -6
  · cases ho : mdO I J t sl wy wi he sg with
    | none => exact ⟨_, bothS (k_X6_grant_f hn hk hp (fun _ => ho)) (s_X7_grant_f hn hk.1 hp.1 hp.2.2.1 (fun _ => ho)) hG0⟩
    | some w =>
      have hw := mdO_lt ho
      obtain ⟨u1, u2, u3, u4⟩ := hu
      by_cases hu16 : u = 16
      · subst hu16
        have ho2 : mdO (wr (wr (wr (wr (wr (setI I 5 (shC (I 5))) 1 10 (nI 15)) 5 15 (nI he)) 1 10 (nI 16)) 1 1 (nI w)) 10 1 0) J t sl wy wi he sg = some w := (mdO_ag rfl rfl rfl).trans ho
        exact ⟨_, bothS (k_X6_grant_16 hn hk hp hf ho u3) (s_X7_grant_16 (I := wr (wr (wr (wr (wr (setI I 5 (shC (I 5))) 1 10 (nI 15)) 5 15 (nI he)) 1 10 (nI 16)) 1 1 (nI w)) 10 1 0) (J := J) hn hk.1 hp.1 hp.2.2.1 hf ho2 u2) ⟨t, sl, wy, wi, w, 16, P, c, 0, ⟨⟨⟨hk.1.1, hk.1.2.1, hk.1.2.2.1, hk.1.2.2.2.1, hk.1.2.2.2.2.1, hk.1.2.2.2.2.2.1, hk.1.2.2.2.2.2.2.1, hk.1.2.2.2.2.2.2.2.1, hk.1.2.2.2.2.2.2.2.2.1, rfl, hw⟩, ⟨hk.2.1.1, rfl, hk.2.1.2.2.1, hk.2.1.2.2.2.1, hk.2.1.2.2.2.2⟩, hk.2.2.1, hk.2.2.2.1, hk.2.2.2.2.1, hk.2.2.2.2.2⟩, ⟨by omega, rfl, rfl, fun j hj => by
          show upd (shC (I 5)) 15 (nI he) j = upd (shA (I 37) 15) 15 (nI he) j ∧ ∃ w, w < 2 ^ t ∧ upd (shA (I 37) 15) 15 (nI he) j = nI w
          by_cases e : j = 15
          · rw [e, pk_us, pk_us]; exact ⟨rfl, he, hhl, rfl⟩
          · rw [pk_un e, pk_un e]
            have e1 : shC (I 5) j = I 5 (j + 1) := by unfold shC; rw [pk_cpy_in (Nat.zero_le _) (by omega), Nat.sub_zero, Nat.add_comm]
            have e2 : shA (I 37) 15 j = I 37 (j + 1) := by unfold shA; rw [if_pos (by omega)]
            rw [e1, e2]; exact u4 (j + 1) (by omega)⟩, FTI_ag hft rfl rfl rfl rfl rfl, CMI_ag hcm rfl rfl rfl rfl rfl⟩, TOK_ag ht rfl rfl rfl rfl rfl, ⟨rfl, rfl, by omega, hp.2.2.2⟩, PW_ag hpw rfl, IMGS_g him rfl rfl rfl (fun q hq => by simp [setI, show q ≠ 1 by omega, show q ≠ 2 by omega, show q ≠ 3 by omega, show q ≠ 4 by omega, show q ≠ 5 by omega, show q ≠ 7 by omega, show q ≠ 8 by omega, show q ≠ 10 by omega, show q ≠ 11 by omega, show q ≠ 33 by omega, show q ≠ 34 by omega, show q ≠ 35 by omega, show q ≠ 36 by omega, show q ≠ 37 by omega, show q ≠ 39 by omega, show q ≠ 40 by omega, show q ≠ 41 by omega]) (fun _ _ => rfl)⟩⟩
      · have ho2 : mdO (wr (wr (wr (wr I 5 u (nI he)) 1 10 (nI (u + 1))) 1 1 (nI w)) 10 1 0) J t sl wy wi he sg = some w := (mdO_ag rfl rfl rfl).trans ho
        exact ⟨_, bothS (k_X6_grant_t hn hk hp hf ho u3 (by omega)) (s_X7_grant_t (I := wr (wr (wr (wr I 5 u (nI he)) 1 10 (nI (u + 1))) 1 1 (nI w)) 10 1 0) (J := J) hn hk.1 hp.1 hp.2.2.1 hf ho2 u2 (by omega)) ⟨t, sl, wy, wi, w, u + 1, P, c, 0, ⟨⟨⟨hk.1.1, hk.1.2.1, hk.1.2.2.1, hk.1.2.2.2.1, hk.1.2.2.2.2.1, hk.1.2.2.2.2.2.1, hk.1.2.2.2.2.2.2.1, hk.1.2.2.2.2.2.2.2.1, hk.1.2.2.2.2.2.2.2.2.1, rfl, hw⟩, ⟨hk.2.1.1, rfl, hk.2.1.2.2.1, hk.2.1.2.2.2.1, hk.2.1.2.2.2.2⟩, hk.2.2.1, hk.2.2.2.1, hk.2.2.2.2.1, hk.2.2.2.2.2⟩, ⟨by omega, rfl, rfl, fun j hj => by
          show upd (I 5) u (nI he) j = upd (I 37) u (nI he) j ∧ ∃ w, w < 2 ^ t ∧ upd (I 37) u (nI he) j = nI w
          by_cases e : j = u
          · rw [e, pk_us, pk_us]; exact ⟨rfl, he, hhl, rfl⟩
          · rw [pk_un e, pk_un e]; exact u4 j (by omega)⟩, FTI_ag hft rfl rfl rfl rfl rfl, CMI_ag hcm rfl rfl rfl rfl rfl⟩, TOK_ag ht rfl rfl rfl rfl rfl, ⟨rfl, rfl, by omega, hp.2.2.2⟩, PW_ag hpw rfl, IMGS_g him rfl rfl rfl (fun q hq => by simp [setI, show q ≠ 1 by omega, show q ≠ 2 by omega, show q ≠ 3 by omega, show q ≠ 4 by omega, show q ≠ 5 by omega, show q ≠ 7 by omega, show q ≠ 8 by omega, show q ≠ 10 by omega, show q ≠ 11 by omega, show q ≠ 33 by omega, show q ≠ 34 by omega, show q ≠ 35 by omega, show q ≠ 36 by omega, show q ≠ 37 by omega, show q ≠ 39 by omega, show q ≠ 40 by omega, show q ≠ 41 by omega]) (fun _ _ => rfl)⟩⟩
  · exact ⟨_, bothS (k_X6_grant_f hn hk hp (fun h => absurd h hf)) (s_X7_grant_f hn hk.1 hp.1 hp.2.2.1 (fun h => absurd h hf)) hG0⟩
theorem st_sixths (a b d e : Int32) (hG : GI n I J X) : ∃ r, Both xl xs 1 20 mX6_sixths 1 22 mX7_sixths [.int a, .int b, .int d, .int e] n I J X (.int r) := by
  have hG0 := hG
  obtain ⟨t, sl, wy, wi, he, u, P, c, sg, ⟨hk, hu, hft, hcm⟩, ht, hp, hpw, him⟩ := hG
  have hn := IMGS_n him
  have h6 := hk.1.2.2.1
  have ht2 := hk.1.2.1
  have h64 := p2_le h6
  have hpos : 0 < 2 ^ t := Nat.pow_pos (by decide)
  cases hv : sxF a b d e with
  | false => exact ⟨_, bothS (k_X6_sixths_f hn hv) (s_X7_sixths_f hn hv) hG0⟩
  | true =>
    have hv0 := hv
    unfold sxF at hv
    simp only [Bool.and_eq_true] at hv
    obtain ⟨x1, -, y1, rfl⟩ := inb_lo (lo := 0) (hi := 6) (by decide) hv.1 (by decide)
    obtain ⟨x2, -, y2, rfl⟩ := inb_lo (lo := 0) (hi := 6) (by decide) hv.2.1 (by decide)
    obtain ⟨x3, -, y3, rfl⟩ := inb_lo (lo := 0) (hi := 6) (by decide) hv.2.2.1 (by decide)
    obtain ⟨x4, -, y4, rfl⟩ := inb_lo (lo := 0) (hi := 6) (by decide) hv.2.2.2.1 (by decide)
    exact ⟨_, bothS (k_X6_sixths hn hv0) (s_X7_sixths (I := wr (wr (wr (wr I 4 0 (nI x1)) 4 1 (nI x2)) 4 2 (nI x3)) 4 3 (nI x4)) (J := J) hn hv0) ⟨t, sl, wy, wi, he, u, P, c, sg, ⟨⟨hk.1, hk.2.1, hk.2.2.1, hk.2.2.2.1, hk.2.2.2.2.1, fun j hj => by
      match j, hj with
      | 0, _ => exact ⟨rfl, x1, y1, rfl⟩
      | 1, _ => exact ⟨rfl, x2, y2, rfl⟩
      | 2, _ => exact ⟨rfl, x3, y3, rfl⟩
      | 3, _ => exact ⟨rfl, x4, y4, rfl⟩
      | j + 4, h => exact absurd h (by omega)⟩, UN_ag hu rfl rfl rfl rfl, FTI_ag hft rfl rfl rfl rfl rfl, CMI_ag hcm rfl rfl rfl rfl rfl⟩, TOK_ag ht rfl rfl rfl rfl rfl, PdI_ag hp rfl rfl rfl rfl, PW_ag hpw rfl, IMGS_g him rfl rfl rfl (fun q hq => by simp [setI, show q ≠ 1 by omega, show q ≠ 2 by omega, show q ≠ 3 by omega, show q ≠ 4 by omega, show q ≠ 5 by omega, show q ≠ 7 by omega, show q ≠ 8 by omega, show q ≠ 10 by omega, show q ≠ 11 by omega, show q ≠ 33 by omega, show q ≠ 34 by omega, show q ≠ 35 by omega, show q ≠ 36 by omega, show q ≠ 37 by omega, show q ≠ 39 by omega, show q ≠ 40 by omega, show q ≠ 41 by omega]) (fun _ _ => rfl)⟩⟩
theorem st_came (a b : Int32) (hG : GI n I J X) : ∃ r, Both xl xs 2 41 mX6_came 2 43 mX7_came [.int a, .int b] n I J X (.int r) := by
  have hG0 := hG
  obtain ⟨t, sl, wy, wi, he, u, P, c, sg, ⟨hk, hu, hft, hcm⟩, ht, hp, hpw, him⟩ := hG
  have hn := IMGS_n him
  have h6 := hk.1.2.2.1
  have ht2 := hk.1.2.1
  have h64 := p2_le h6
  have hpos : 0 < 2 ^ t := Nat.pow_pos (by decide)
  cases hv : (inb a 0 (nI (2 ^ t) - 1) && inb b 0 (nI (2 ^ t) - 1)) with
  | false => exact ⟨_, bothS (k_X6_came_f hn hk hv) (s_X7_came_f hn hk.1 hv) hG0⟩
  | true =>
    obtain ⟨h1, h2⟩ := Bool.and_eq_true_iff.mp hv
    obtain ⟨c1, c2, c3, c4⟩ := hcm
    by_cases hc6 : c = 6
    · subst hc6
      exact ⟨_, bothS (k_X6_came_6 hn hk h1 h2 c3) (s_X7_came_6 hn hk.1 h1 h2 c2) hG0⟩
    · obtain ⟨x, hx, rfl⟩ := inb_world h6 h1
      obtain ⟨y, hy, rfl⟩ := inb_world h6 h2
      exact ⟨_, bothS (k_X6_came hn hk h1 h2 c3 (by omega)) (s_X7_came (I := wr (wr (wr I 7 c (nI x)) 8 c (nI y)) 1 15 (nI (c + 1))) (J := J) hn hk.1 h1 h2 c2 (by omega)) ⟨t, sl, wy, wi, he, u, P, c + 1, sg, ⟨⟨hk.1, hk.2.1, hk.2.2.1, hk.2.2.2.1, hk.2.2.2.2.1, hk.2.2.2.2.2⟩, UN_ag hu rfl rfl rfl rfl, FTI_ag hft rfl rfl rfl rfl rfl, ⟨by omega, rfl, rfl, fun i hi => by
        unfold cfN
        show upd (I 7) c (nI x) i = upd (upd (I 40) (2 * c) (nI x)) (2 * c + 1) (nI y) (2 * i) ∧ upd (I 8) c (nI y) i = upd (upd (I 40) (2 * c) (nI x)) (2 * c + 1) (nI y) (2 * i + 1) ∧ upd (upd (I 40) (2 * c) (nI x)) (2 * c + 1) (nI y) (2 * i) = nI (upd (upd (I 40) (2 * c) (nI x)) (2 * c + 1) (nI y) (2 * i)).toNatClampNeg ∧ (upd (upd (I 40) (2 * c) (nI x)) (2 * c + 1) (nI y) (2 * i)).toNatClampNeg < 2 ^ t ∧ ∃ v, v < 2 ^ t ∧ upd (upd (I 40) (2 * c) (nI x)) (2 * c + 1) (nI y) (2 * i + 1) = nI v
        by_cases e : i = c
        · subst e
          rw [pk_us, pk_us, pk_un (show 2 * i ≠ 2 * i + 1 by omega), pk_us, pk_us, nI_clamp (by omega)]
          exact ⟨rfl, rfl, rfl, hx, y, hy, rfl⟩
        · rw [pk_un e, pk_un e, pk_un (show 2 * i ≠ 2 * c + 1 by omega), pk_un (show 2 * i ≠ 2 * c by omega), pk_un (show 2 * i + 1 ≠ 2 * c + 1 by omega), pk_un (show 2 * i + 1 ≠ 2 * c by omega)]
          exact c4 i (by omega)⟩⟩, TOK_ag ht rfl rfl rfl rfl rfl, PdI_ag hp rfl rfl rfl rfl, PW_ag hpw rfl, IMGS_g him rfl rfl rfl (fun q hq => by simp [setI, show q ≠ 1 by omega, show q ≠ 2 by omega, show q ≠ 3 by omega, show q ≠ 4 by omega, show q ≠ 5 by omega, show q ≠ 7 by omega, show q ≠ 8 by omega, show q ≠ 10 by omega, show q ≠ 11 by omega, show q ≠ 33 by omega, show q ≠ 34 by omega, show q ≠ 35 by omega, show q ≠ 36 by omega, show q ≠ 37 by omega, show q ≠ 39 by omega, show q ≠ 40 by omega, show q ≠ 41 by omega]) (fun _ _ => rfl)⟩⟩
theorem st_forget (hG : GI n I J X) : ∃ r, Both xl xs 1 21 mX6_forget 0 0 mX7_forget [] n I J X (.int r) := by
  have hG0 := hG
  obtain ⟨t, sl, wy, wi, he, u, P, c, sg, ⟨hk, hu, hft, hcm⟩, ht, hp, hpw, him⟩ := hG
  have hn := IMGS_n him
  have h6 := hk.1.2.2.1
  have ht2 := hk.1.2.1
  have h64 := p2_le h6
  have hpos : 0 < 2 ^ t := Nat.pow_pos (by decide)
  have hc := k_X6_forget (xl := xl) (xs := xs) (I := I) (J := J) (X := X) hn
  rw [hft.2.2.1, hcm.2.2.1] at hc
  have hm := s_X7_forget (xl := xl) (xs := xs) (I := wr (wr I 1 12 0) 1 15 0) (J := fillJ J 6 12 (fun _ => -1)) (X := X) hn
  rw [show wr (wr I 1 12 0) 1 15 0 33 11 = _ from hft.2.1, show wr (wr I 1 12 0) 1 15 0 33 14 = _ from hcm.2.1] at hm
  have h729 := p3_le h6
  exact ⟨_, bothS hc hm ⟨t, sl, wy, wi, he, u, 0, 0, sg, ⟨⟨hk.1, hk.2.1, hk.2.2.1, hk.2.2.2.1, hk.2.2.2.2.1, hk.2.2.2.2.2⟩, UN_ag hu rfl rfl rfl rfl, ⟨by omega, rfl, rfl, fun p hp => absurd hp (by omega), fun num hnum => by
    unfold fitB
    rw [fillJ_at (show num / 64 < 12 by omega), lb_m1 _ (by omega)]
    rfl⟩, ⟨by omega, rfl, rfl, fun i hi => absurd hi (by omega)⟩⟩, TOK_ag ht rfl rfl rfl rfl rfl, PdI_ag hp rfl rfl rfl rfl, PW_ag hpw rfl, IMGS_g him rfl rfl rfl (fun q hq => by simp [setI, show q ≠ 1 by omega, show q ≠ 2 by omega, show q ≠ 3 by omega, show q ≠ 4 by omega, show q ≠ 5 by omega, show q ≠ 7 by omega, show q ≠ 8 by omega, show q ≠ 10 by omega, show q ≠ 11 by omega, show q ≠ 33 by omega, show q ≠ 34 by omega, show q ≠ 35 by omega, show q ≠ 36 by omega, show q ≠ 37 by omega, show q ≠ 39 by omega, show q ≠ 40 by omega, show q ≠ 41 by omega]) (fun q hq => by simp [setJ, fillJ, show q ≠ 1 by omega, show q ≠ 6 by omega, show q ≠ 33 by omega, show q ≠ 38 by omega])⟩⟩
theorem st_picked (a : Int32) (hG : GI n I J X) : ∃ r, Both xl xs 3 74 mX6_picked 4 95 mX7_picked [.int a] n I J X (.int r) := by
  have hG0 := hG
  obtain ⟨t, sl, wy, wi, he, u, P, c, sg, ⟨hk, hu, hft, hcm⟩, ht, hp, hpw, him⟩ := hG
  have hn := IMGS_n him
  have h6 := hk.1.2.2.1
  have ht2 := hk.1.2.1
  have h64 := p2_le h6
  have hpos : 0 < 2 ^ t := Nat.pow_pos (by decide)
  cases hv : inb a 0 (nI (2 ^ t) - 1) with
  | false => exact ⟨_, bothS (k_X6_picked_f hn hk hv) (s_X7_picked_f hn hk.1 hv) hG0⟩
  | true =>
    by_cases hf : ffP I t sg = -6
    · obtain ⟨w, hw, rfl⟩ := inb_world h6 hv
      cases hb : lbit (kpL I J t sl sg he) w with
      | false => exact ⟨_, bothS (k_X6_picked_h hn hk hp hv hw hf hb) (s_X7_picked_h hn hk.1 hp.1 hp.2.2.1 hv hw hf hb) hG0⟩
      | true =>
        obtain ⟨p1, p2, p3, p4, p5⟩ := hft
        by_cases hP6 : P = 6
        · subst hP6
          exact ⟨_, bothS (k_X6_picked_6 hn hk hp hv hw hf hb p3) (s_X7_picked_6 hn hk.1 hp.1 hp.2.2.1 hv hw hf hb p2) hG0⟩
        · refine ⟨_, fun S T => rnX_G (k_X6_picked hn hk ht hp hv hw hf hb p3 (by omega)) (fun I1 S1 J1 T1 hpk S2 T2 => ?_)⟩
          obtain ⟨rfl, hJ, hfit⟩ := hpk
          have e33 : J1 33 = J 33 := hJ 33 (by decide)
          have ekp : kpL (wr I 1 12 (nI (P + 1))) J1 t sl sg he = kpL I J t sl sg he := by unfold kpL; rw [e33]; rfl
          have hs := s_X7_picked (xl := xl) (xs := xs) (I := wr I 1 12 (nI (P + 1))) (J := J1) (X := X) hn hk.1 hp.1 hp.2.2.1 hv hw hf (by rw [ekp]; exact hb) p2 (show P < 6 by omega)
          rw [ekp] at hs
          refine rnX_S hs (fun _ _ => ⟨t, sl, wy, wi, he, u, P + 1, c, sg, ⟨⟨hk.1, hk.2.1, ⟨by show J1 1 5 = J1 33 8; rw [e33, hJ 1 (by decide)]; exact hk.2.2.1.1, by show ∀ w, 2 ^ t ≤ w → lbit (J1 33 8) w = false; rw [e33]; exact hk.2.2.1.2⟩, hk.2.2.2.1, hk.2.2.2.2.1, hk.2.2.2.2.2⟩, UN_ag hu rfl rfl rfl rfl, ⟨by omega, rfl, rfl, fun p hpp => ?_, fun num hnum => ?_⟩, CMI_ag hcm rfl rfl rfl rfl rfl⟩, TOK_ag ht rfl rfl rfl rfl (hJ 19 (by decide)), PdI_ag hp rfl rfl rfl rfl, PW_ag hpw rfl, IMGS_g him rfl rfl (hJ 47 (by decide)) (fun q hq => by simp [setI, show q ≠ 1 by omega, show q ≠ 2 by omega, show q ≠ 3 by omega, show q ≠ 4 by omega, show q ≠ 5 by omega, show q ≠ 7 by omega, show q ≠ 8 by omega, show q ≠ 10 by omega, show q ≠ 11 by omega, show q ≠ 33 by omega, show q ≠ 34 by omega, show q ≠ 35 by omega, show q ≠ 36 by omega, show q ≠ 37 by omega, show q ≠ 39 by omega, show q ≠ 40 by omega, show q ≠ 41 by omega]) (fun q hq => by rw [← hJ q (by omega)]; simp [setJ, show q ≠ 38 by omega])⟩)
          · unfold pvN
            show upd (I 39) P (nI w) p = nI (upd (I 39) P (nI w) p).toNatClampNeg ∧ (upd (I 39) P (nI w) p).toNatClampNeg < 2 ^ t
            by_cases e : p = P
            · rw [e, pk_us, nI_clamp (by omega)]; exact ⟨rfl, hw⟩
            · rw [pk_un e]; exact p4 p (by omega)
          · show fitB (wrJ J1 38 P (kpL I J t sl sg he)) num = _
            rw [show fitB (wrJ J1 38 P (kpL I J t sl sg he)) num = fitB J1 num from rfl, hfit num hnum, p5 num hnum]
            show _ = (allN _ P && tsP _ _ t num P)
            congr 1
            · unfold tsF
              refine allN_congr (fun i hi => ?_)
              have e : i ≠ P := by omega
              unfold tsP pvN
              show allN (tkB t num (J 38 i) (I 39 i).toNatClampNeg) (2 ^ t) = allN (tkB t num (vp_updL (J1 38) P (kpL I J t sl sg he) i) (upd (I 39) P (nI w) i).toNatClampNeg) (2 ^ t)
              rw [pk_un e, pk_uLn e, hJ 38 (by decide)]
            · unfold tsP pvN
              show _ = allN (tkB t num (vp_updL (J1 38) P (kpL I J t sl sg he) P) (upd (I 39) P (nI w) P).toNatClampNeg) (2 ^ t)
              rw [pk_us, pk_uLs, nI_clamp (by omega)]
    · exact ⟨_, bothS (k_X6_picked_n hn hk hp hv hf) (s_X7_picked_n hn hk.1 hp.1 hp.2.2.1 hv hf) hG0⟩
end STEP2
