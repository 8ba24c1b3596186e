section STEP1
variable {xl : Nat} {xs : Nat → Int32} {n : Nat} {I : Nat → Nat → Int32} {J : Nat → Nat → Int64} {X : Nat → Option Nat}
theorem st_fault (hG : GI n I J X) : ∃ r, Both xl xs 2 47 mX6_fault 3 69 mX7_fault [] n I J X (.int r) := by
  have hG0 := hG
  obtain ⟨t, sl, wy, wi, he, u, P, c, sg, ⟨hk, hu, hft, hcm⟩, ht, hp, hpw, him⟩ := hG
  have hn := IMGS_n him
  exact ⟨_, bothS (k_X6_fault hn hk hp) (s_X7_fault hn hk.1 hp.1 hp.2.2.1) hG0⟩
theorem st_worthOf (a b : Int32) (hG : GI n I J X) : ∃ r, Both xl xs 2 41 mX6_worthOf 2 45 mX7_worthOf [.int a, .int b] n I J X (.int r) := by
  have hG0 := hG
  obtain ⟨t, sl, wy, wi, he, u, P, c, sg, ⟨hk, hu, hft, hcm⟩, ht, hp, hpw, him⟩ := hG
  have hn := IMGS_n him
  exact ⟨_, bothS (k_X6_worthOf hn hk a b) (s_X7_worthOf hn hk.1 a b) hG0⟩
theorem st_kept (a : Int32) (hG : GI n I J X) : ∃ r, Both xl xs 3 69 mX6_kept 4 95 mX7_kept [.int a] n I J X (.int r) := by
  have hG0 := hG
  obtain ⟨t, sl, wy, wi, he, u, P, c, sg, ⟨hk, hu, hft, hcm⟩, ht, hp, hpw, him⟩ := hG
  have hn := IMGS_n him
  exact ⟨_, bothS (k_X6_kept hn hk hp a) (s_X7_kept hn hk.1 hp.1 hp.2.2.1 a) hG0⟩
theorem st_makes (hG : GI n I J X) : ∃ r, Both xl xs 5 116 mX6_makes 5 116 mX7_makes [] n I J X (.int r) := by
  have hG0 := hG
  obtain ⟨t, sl, wy, wi, he, u, P, c, sg, ⟨hk, hu, hft, hcm⟩, ht, hp, hpw, him⟩ := hG
  have hn := IMGS_n him
  exact ⟨_, bothS (k_X6_makes hn hk hp) (s_X7_makes hn hk.1 hp.1 hp.2.2.1) hG0⟩
theorem st_extreme (a b d : Int32) (hG : GI n I J X) : ∃ r, Both xl xs 4 91 mX6_extreme 5 116 mX7_extreme [.int a, .int b, .int d] n I J X (.int r) := by
  have hG0 := hG
  obtain ⟨t, sl, wy, wi, he, u, P, c, sg, ⟨hk, hu, hft, hcm⟩, ht, hp, hpw, him⟩ := hG
  have hn := IMGS_n him
  exact ⟨_, bothS (k_X6_extreme hn hk hp a b d) (s_X7_extreme hn hk.1 hp.1 hp.2.2.1 a b d) hG0⟩
theorem st_harmed (hG : GI n I J X) : ∃ r, Both xl xs 5 116 mX6_harmed 5 116 mX7_harmed [] n I J X (.int r) := by
  have hG0 := hG
  obtain ⟨t, sl, wy, wi, he, u, P, c, sg, ⟨hk, hu, hft, hcm⟩, ht, hp, hpw, him⟩ := hG
  have hn := IMGS_n him
  exact ⟨_, bothS (k_X6_harmed hn hk hp) (s_X7_harmed hn hk.1 hp.1 hp.2.2.1) hG0⟩
theorem st_term (a : Int32) (hG : GI n I J X) : ∃ r, Both xl xs 5 118 mX6_term 5 114 mX7_term [.int a] n I J X (.int r) := by
  have hG0 := hG
  obtain ⟨t, sl, wy, wi, he, u, P, c, sg, ⟨hk, hu, hft, hcm⟩, ht, hp, hpw, him⟩ := hG
  have hn := IMGS_n him
  exact ⟨_, bothS (k_X6_term hn hk ht a) (s_X7_term hn hk.1 a) hG0⟩
theorem st_wording (a b : Int32) (hG : GI n I J X) : ∃ r, Both xl xs 5 118 mX6_wording 5 114 mX7_wording [.int a, .int b] n I J X (.int r) := by
  have hG0 := hG
  obtain ⟨t, sl, wy, wi, he, u, P, c, sg, ⟨hk, hu, hft, hcm⟩, ht, hp, hpw, him⟩ := hG
  have hn := IMGS_n him
  exact ⟨_, bothS (k_X6_wording hn hk ht a b) (s_X7_wording hn hk.1 a b) hG0⟩
theorem st_most (a b : Int32) (hG : GI n I J X) : ∃ r, Both xl xs 5 118 mX6_most 5 114 mX7_most [.int a, .int b] n I J X (.int r) := by
  have hG0 := hG
  obtain ⟨t, sl, wy, wi, he, u, P, c, sg, ⟨hk, hu, hft, hcm⟩, ht, hp, hpw, him⟩ := hG
  have hn := IMGS_n him
  exact ⟨_, bothS (k_X6_most hn hk ht a b) (s_X7_most hn hk.1 a b) hG0⟩
theorem st_votes (hG : GI n I J X) : ∃ r, Both xl xs 5 116 mX6_votes 5 116 mX7_votes [] n I J X (.int r) := by
  have hG0 := hG
  obtain ⟨t, sl, wy, wi, he, u, P, c, sg, ⟨hk, hu, hft, hcm⟩, ht, hp, hpw, him⟩ := hG
  have hn := IMGS_n him
  exact ⟨_, bothS (k_X6_votes hn hk hp) (s_X7_votes hn hk.1 hp.1 hp.2.2.1) hG0⟩
theorem st_agreed (a : Int32) (hG : GI n I J X) : ∃ r, Both xl xs 5 118 mX6_agreed 5 114 mX7_agreed [.int a] n I J X (.int r) := by
  have hG0 := hG
  obtain ⟨t, sl, wy, wi, he, u, P, c, sg, ⟨hk, hu, hft, hcm⟩, ht, hp, hpw, him⟩ := hG
  have hn := IMGS_n him
  exact ⟨_, bothS (k_X6_agreed hn hk ht a) (s_X7_agreed hn hk.1 a) hG0⟩
theorem st_paid (hG : GI n I J X) : ∃ r, Both xl xs 5 116 mX6_paid 5 116 mX7_paid [] n I J X (.int r) := by
  have hG0 := hG
  obtain ⟨t, sl, wy, wi, he, u, P, c, sg, ⟨hk, hu, hft, hcm⟩, ht, hp, hpw, him⟩ := hG
  have hn := IMGS_n him
  exact ⟨_, bothS (k_X6_paid hn hk hp) (s_X7_paid hn hk.1 hp.1 hp.2.2.1) hG0⟩
theorem st_fit (a : Int32) (hG : GI n I J X) : ∃ r, Both xl xs 1 22 mX6_fit 3 74 mX7_fit [.int a] n I J X (.int r) := by
  have hG0 := hG
  obtain ⟨t, sl, wy, wi, he, u, P, c, sg, ⟨hk, hu, hft, hcm⟩, ht, hp, hpw, him⟩ := hG
  have hn := IMGS_n him
  exact ⟨_, bothS (k_X6_fit hn hk ht hft a) (s_X7_fit hn hk.1 hft.2.1 hft.1 hft.2.2.2.1 a) hG0⟩
theorem st_letters (a : Int32) (hG : GI n I J X) : ∃ r, Both xl xs 6 140 mX6_letters 5 114 mX7_letters [.int a] n I J X (.int r) := by
  have hG0 := hG
  obtain ⟨t, sl, wy, wi, he, u, P, c, sg, ⟨hk, hu, hft, hcm⟩, ht, hp, hpw, him⟩ := hG
  have hn := IMGS_n him
  exact ⟨_, bothS (k_X6_letters hn hk ht hcm a) (s_X7_letters hn hk.1 hcm.2.1 hcm.1 (fun i hi => ⟨(hcm.2.2.2 i hi).2.2.1, (hcm.2.2.2 i hi).2.2.2.1⟩) a) hG0⟩
theorem st_drunk (a b : Int32) (hG : GI n I J X) : ∃ r, Both xl xs 4 91 mX6_drunk 5 116 mX7_drunk [.int a, .int b] n I J X (.long r) := by
  have hG0 := hG
  obtain ⟨t, sl, wy, wi, he, u, P, c, sg, ⟨hk, hu, hft, hcm⟩, ht, hp, hpw, him⟩ := hG
  have hn := IMGS_n him
  exact ⟨_, bothS (k_X6_drunk hn hk hp a b) (s_X7_drunk hn hk.1 hp.1 hp.2.2.1 a b) hG0⟩
theorem st_mean (a b : Int32) (hG : GI n I J X) : ∃ r, Both xl xs 4 91 mX6_mean 5 116 mX7_mean [.int a, .int b] n I J X (.long r) := by
  have hG0 := hG
  obtain ⟨t, sl, wy, wi, he, u, P, c, sg, ⟨hk, hu, hft, hcm⟩, ht, hp, hpw, him⟩ := hG
  have hn := IMGS_n him
  exact ⟨_, bothS (k_X6_mean hn hk hp a b) (s_X7_mean hn hk.1 hp.1 hp.2.2.1 (fun c w hc _ => wn_ok hk hc w) a b) hG0⟩
theorem st_year (a b d : Int32) (hG : GI n I J X) : ∃ r, Both xl xs 5 118 mX6_year 5 114 mX7_year [.int a, .int b, .int d] n I J X (.int r) := by
  have hG0 := hG
  obtain ⟨t, sl, wy, wi, he, u, P, c, sg, ⟨hk, hu, hft, hcm⟩, ht, hp, hpw, him⟩ := hG
  have hn := IMGS_n him
  exact ⟨_, bothS (k_X6_year hn hk ht a b d) (s_X7_year hn hk.1 a b d) hG0⟩
theorem st_comma (a : Int32) (hG : GI n I J X) : ∃ r, Both xl xs 6 145 mX6_comma 4 95 mX7_comma [.int a] n I J X (.int r) := by
  have hG0 := hG
  obtain ⟨t, sl, wy, wi, he, u, P, c, sg, ⟨hk, hu, hft, hcm⟩, ht, hp, hpw, him⟩ := hG
  have hn := IMGS_n him
  cases hv : inb a 0 2 with
  | false => exact ⟨_, bothS (k_X6_comma_f hn hv) (s_X7_comma_f hn hv) hG0⟩
  | true =>
    by_cases hf : ffP I t sg = -6
    · exact ⟨_, bothS (k_X6_comma hn hk hp hv hf) (s_X7_comma hn hk.1 hp.1 hp.2.2.1 hv hf) hG0⟩
    · exact ⟨_, bothS (k_X6_comma_n hn hk hp hv hf) (s_X7_comma_n hn hk.1 hp.1 hp.2.2.1 hv hf) hG0⟩
theorem st_row (a b d : Int32) (hG : GI n I J X) : ∃ r, Both xl xs 5 119 mX6_row 3 73 mX7_row [.int a, .int b, .int d] n I J X (.int r) := by
  have hG0 := hG
  obtain ⟨t, sl, wy, wi, he, u, P, c, sg, ⟨hk, hu, hft, hcm⟩, ht, hp, hpw, him⟩ := hG
  have hn := IMGS_n him
  refine ⟨_, fun S T => rnX_mono (k_X6_row hn hk ht hpw a b d) (fun I1 S1 J1 T1 hro S2 T2 => ?_)⟩
  obtain ⟨rfl, hI, hP⟩ := hro
  have hs := s_X7_row (xl := xl) (xs := xs) (J := J1) (X := X) hn (KI_mono hk hI).1 a b d
  rw [wtF_28 hI] at hs
  exact rnX_S hs (fun _ _ => GI_28 hG0 hI hP)
theorem st_lamps (a b d : Int32) (hG : GI n I J X) : ∃ r, Both xl xs 5 119 mX6_lamps 3 73 mX7_lamps [.int a, .int b, .int d] n I J X (.int r) := by
  have hG0 := hG
  obtain ⟨t, sl, wy, wi, he, u, P, c, sg, ⟨hk, hu, hft, hcm⟩, ht, hp, hpw, him⟩ := hG
  have hn := IMGS_n him
  refine ⟨_, fun S T => rnX_mono (k_X6_lamps hn hk ht hpw a b d) (fun I1 S1 J1 T1 hro S2 T2 => ?_)⟩
  obtain ⟨rfl, hI, hP⟩ := hro
  have hs := s_X7_lamps (xl := xl) (xs := xs) (J := J1) (X := X) hn (KI_mono hk hI).1 a b d
  rw [wtF_28 hI, wtF_28 hI] at hs
  exact rnX_S hs (fun _ _ => GI_28 hG0 hI hP)
end STEP1
