theorem LV_fresh {I : Nat → Nat → Int32} {J : Nat → Nat → Int64} {m : Nat} (h2 : 2 ≤ m) (h6 : m ≤ 6) (f1 : I 1 0 = nI m ∧ I 1 1 = 0 ∧ I 1 2 = 0 ∧ I 1 3 = 0 ∧ I 1 4 = 6 ∧ I 1 10 = 0 ∧ I 1 12 = 0 ∧ I 1 15 = 0) (f2 : I 33 0 = nI m ∧ I 33 4 = 0 ∧ I 33 5 = 0 ∧ I 33 6 = 6 ∧ I 33 7 = 0 ∧ I 33 9 = 0 ∧ I 33 11 = 0 ∧ I 33 14 = 0) (hj : J 1 5 = allL m ∧ J 33 8 = allL m) (z : ∀ j, j < 24 → I 2 j = 0 ∧ I 34 j = 0) (z6 : ∀ j, j < 6 → I 3 j = 0 ∧ I 35 j = 0) (s : ∀ j, j < 4 → I 4 j = s6f j ∧ I 36 j = s6f j) (ft : ∀ j, j < 12 → J 6 j = -1) : LV I J m 6 0 0 0 0 0 0 := by
  obtain ⟨a0, a1, a2, a3, a4, a5, a6, a7⟩ := f1
  obtain ⟨b0, b1, b2, b3, b4, b5, b6, b7⟩ := f2
  have h64 := p2_le h6
  have h729 := p3_le h6
  have w0 : wb9 0 := ⟨by decide, by decide⟩
  refine ⟨⟨⟨b0, h2, h6, b3, by omega, b1, by omega, b2, by omega, b4, Nat.pow_pos (by decide)⟩, ⟨a0, a1, a2, a3, a4⟩, ⟨by rw [hj.1, hj.2], fun w hw => by rw [hj.2]; exact mk64_hi h64 hw⟩, fun j h => ?_, fun j h => ?_, fun j h => ?_⟩, ⟨by omega, b5, a5, fun j h => absurd h (by omega)⟩, ⟨by omega, b6, a6, fun j h => absurd h (by omega), fun num hnum => ?_⟩, ⟨by omega, b7, a7, fun j h => absurd h (by omega)⟩⟩
  · rw [(z j h).1, (z j h).2]; exact ⟨rfl, w0⟩
  · rw [(z6 j h).1, (z6 j h).2]; exact ⟨rfl, w0⟩
  · rw [(s j h).1, (s j h).2]
    refine ⟨rfl, ?_⟩
    unfold s6f
    split
    · exact ⟨6, by omega, rfl⟩
    · exact ⟨0, by omega, rfl⟩
  · unfold fitB
    rw [ft (num / 64) (by omega), lb_m1 _ (by omega)]
    rfl
theorem LV_th {I I1 : Nat → Nat → Int32} {J J1 : Nat → Nat → Int64} {m : Nat} (h2 : 2 ≤ m) (h6 : m ≤ 6) (hI : ∀ p, p ≠ 16 → p ≠ 17 → p ≠ 18 → p ≠ 20 → I1 p = bgI I m p) (hJ : ∀ p, p ≠ 19 → J1 p = bgJ J m p) : LV (plI (wr I1 33 0 (nI m))) (wrJ J1 33 8 (allL m)) m 6 0 0 0 0 0 0 := by
  have e1 : I1 1 = bgI I m 1 := hI 1 (by decide) (by decide) (by decide) (by decide)
  have e2 : I1 2 = bgI I m 2 := hI 2 (by decide) (by decide) (by decide) (by decide)
  have e3 : I1 3 = bgI I m 3 := hI 3 (by decide) (by decide) (by decide) (by decide)
  have e4 : I1 4 = bgI I m 4 := hI 4 (by decide) (by decide) (by decide) (by decide)
  have f1 : J1 1 = bgJ J m 1 := hJ 1 (by decide)
  have f6 : J1 6 = bgJ J m 6 := hJ 6 (by decide)
  refine LV_fresh h2 h6 ⟨congrFun e1 0, congrFun e1 1, congrFun e1 2, congrFun e1 3, congrFun e1 4, congrFun e1 10, congrFun e1 12, congrFun e1 15⟩ ⟨rfl, rfl, rfl, rfl, rfl, rfl, rfl, rfl⟩ ⟨congrFun f1 5, rfl⟩ (fun j hj => ⟨?_, ?_⟩) (fun j hj => ⟨?_, ?_⟩) (fun j hj => ⟨?_, ?_⟩) (fun j hj => ?_)
  · rw [show plI (wr I1 33 0 (nI m)) 2 j = I1 2 j from rfl, e2]; show (if j < 24 then z24 j else _) = 0; rw [if_pos hj]; rfl
  · show (if j < 24 then z24 j else _) = 0; rw [if_pos hj]; rfl
  · rw [show plI (wr I1 33 0 (nI m)) 3 j = I1 3 j from rfl, e3]; show (if j < 6 then z24 j else _) = 0; rw [if_pos hj]; rfl
  · show (if j < 6 then z24 j else _) = 0; rw [if_pos hj]; rfl
  · rw [show plI (wr I1 33 0 (nI m)) 4 j = I1 4 j from rfl, e4]; show (if j < 4 then s6f j else _) = s6f j; rw [if_pos hj]
  · show (if j < 4 then s6f j else _) = s6f j; rw [if_pos hj]
  · rw [show wrJ J1 33 8 (allL m) 6 j = J1 6 j from rfl, f6]; show (if j < 12 then (-1 : Int64) else _) = -1; rw [if_pos hj]
theorem plI_q {I : Nat → Nat → Int32} {q : Nat} (h : 37 ≤ q) : plI I q = I q := by unfold plI plA; simp [setI, fillA, show q ≠ 33 by omega, show q ≠ 34 by omega, show q ≠ 35 by omega, show q ≠ 36 by omega]
theorem bgI_q {I : Nat → Nat → Int32} {m q : Nat} (h : 5 ≤ q) : bgI I m q = I q := by unfold bgI; simp [setI, fillA, show q ≠ 1 by omega, show q ≠ 2 by omega, show q ≠ 3 by omega, show q ≠ 4 by omega]
theorem bgJ_q {J : Nat → Nat → Int64} {m q : Nat} (h : 7 ≤ q) : bgJ J m q = J q := by unfold bgJ; simp [setJ, fillJ, show q ≠ 1 by omega, show q ≠ 6 by omega]
section STEP3
variable {xl : Nat} {xs : Nat → Int32} {n : Nat} {I : Nat → Nat → Int32} {J : Nat → Nat → Int64} {X : Nat → Option Nat}
theorem st_things (a : Int32) (hG : GI n I J X) : ∃ r, Both xl xs 3 62 mX6_things 3 61 mX7_things [.int a] n I J X (.int r) := by
  have hG0 := hG
  obtain ⟨t, sl, wy, wi, he, u, P, c, sg, ⟨hk, hu, hft, hcm⟩, ht, hp, hpw, him⟩ := hG
  have hn := IMGS_n him
  have h6 := hk.1.2.2.1
  have ht2 := hk.1.2.1
  have h64 := p2_le h6
  cases hv : inb a 2 6 with
  | false => exact ⟨_, bothS (k_X6_things_f hn hv) (s_X7_things_f hv) hG0⟩
  | true =>
    obtain ⟨m, hm2, hm6, rfl⟩ := inb_lo (lo := 2) (hi := 6) (by decide) hv (by decide)
    refine ⟨_, fun S T => rnX_mono (k_X6_things hn ht h6 hm2 hm6) (fun I1 S1 J1 T1 hth S2 T2 => ?_)⟩
    obtain ⟨hI, hJ, hT⟩ := hth
    have hs := s_X7_things (xl := xl) (xs := xs) (I := I1) (J := J1) (X := X) hn hm2 hm6
    have e33 : I1 33 = I 33 := (hI 33 (by decide) (by decide) (by decide) (by decide)).trans (bgI_q (by decide))
    rw [show I1 33 0 = I 1 0 from (congrFun e33 0).trans (hk.1.1.trans hk.2.1.1.symm)] at hs
    refine rnX_S hs (fun _ _ => ⟨m, 6, 0, 0, 0, 0, 0, 0, sg, LV_th hm2 hm6 hI hJ, TOK_ag hT rfl rfl rfl rfl rfl, PdI_ag hp (congrFun e33 16) (congrFun ((hI 10 (by decide) (by decide) (by decide) (by decide)).trans (bgI_q (by decide))) 1) ((hI 11 (by decide) (by decide) (by decide) (by decide)).trans (bgI_q (by decide))) ((hI 41 (by decide) (by decide) (by decide) (by decide)).trans (bgI_q (by decide))), PW_ag hpw ((hI 28 (by decide) (by decide) (by decide) (by decide)).trans (bgI_q (by decide))), IMGS_g him ((hI 46 (by decide) (by decide) (by decide) (by decide)).trans (bgI_q (by decide))) ((hI 48 (by decide) (by decide) (by decide) (by decide)).trans (bgI_q (by decide))) ((hJ 47 (by decide)).trans (bgJ_q (by decide))) (fun q hq => ?_) (fun q hq => ?_)⟩)
    · rw [plI_q (by omega)]
      rw [show wr I1 33 0 (nI m) q = I1 q from (by simp [setI, show q ≠ 33 by omega]), hI q (by omega) (by omega) (by omega) (by omega)]
      exact bgI_q (by omega)
    · rw [show wrJ J1 33 8 (allL m) q = J1 q from (by simp [setJ, show q ≠ 33 by omega]), hJ q (by omega)]
      exact bgJ_q (by omega)
theorem rsI_q {I : Nat → Nat → Int32} {b q : Nat} (h : 41 ≤ q) : rsI I b q = I q := by unfold rsI rs5 rs4 rs3 rs2 rs1; simp [setI, fillA, show q ≠ 33 by omega, show q ≠ 34 by omega, show q ≠ 35 by omega, show q ≠ 36 by omega, show q ≠ 37 by omega, show q ≠ 39 by omega, show q ≠ 40 by omega]
theorem rsJ_q {J : Nat → Nat → Int64} {b q : Nat} (h : 41 ≤ q) : rsJ J b q = J q := by unfold rsJ; simp [setJ, fillJ, show q ≠ 33 by omega, show q ≠ 38 by omega]
theorem GI_rs {I' : Nat → Nat → Int32} {J' : Nat → Nat → Int64} {a p m sl wy wi he u P c : Nat} {S' T'} (hG : GI n I J X) (ha : a < 2) (hp9 : 9 ≤ p) (hL : LV (rvI I a p) (rvJ J a p) m sl wy wi he u P c) (hr : rsP I J p m I' S' J' T') : GI n (rsI I' (100 * a)) (rsJ J' (7 * a)) X := by
  obtain ⟨-, -, -, -, -, -, -, -, sg, -, -, hp, hpw, him⟩ := hG
  obtain ⟨I1, S1, J1, T1, hcp, hI, hJ, hT⟩ := hr
  obtain ⟨-, -, h3, ⟨c0, c1, c2, c3, c4, c10, c12, c15⟩, cj, w1, w2, w3, w4, w5, w6, w7⟩ := hcp
  have eI : ∀ q, 9 ≤ q → q ≠ 16 → q ≠ 17 → q ≠ 18 → q ≠ 20 → I' q = I q := fun q h a1 a2 a3 a4 => (hI q a1 a2 a3 a4).trans (h3 q (by omega)).1
  have eJ : ∀ q, 9 ≤ q → q ≠ 19 → J' q = J q := fun q h a1 => (hJ q a1).trans (h3 q (by omega)).2
  have e46 : I' 46 = I 46 := eI 46 (by decide) (by decide) (by decide) (by decide) (by decide)
  have e47 : J' 47 = J 47 := eJ 47 (by decide) (by decide)
  have e33 : I' 33 = I 33 := eI 33 (by decide) (by decide) (by decide) (by decide) (by decide)
  have f : ∀ q, 1 ≤ q → q < 9 → I' q = I1 q := fun q h1 h2 => hI q (by omega) (by omega) (by omega) (by omega)
  have fJ : ∀ q, q < 9 → J' q = J1 q := fun q h2 => hJ q (by omega)
  have k46 : ∀ j, I' 46 j = I 46 j := fun j => congrFun e46 j
  have k47 : ∀ j, J' 47 j = J 47 j := fun j => congrFun e47 j
  have f1 : ∀ j, rsI I' (100 * a) 1 j = I1 1 j := fun j => congrFun (f 1 (by decide) (by decide)) j
  refine ⟨m, sl, wy, wi, he, u, P, c, sg, LV_ag (I := rvI I a p) (J := rvJ J a p) ⟨⟨(f1 0).trans c0, (f1 1).trans c1, (f1 2).trans c2, (f1 3).trans c3, (f1 4).trans c4, (f1 10).trans c10, (f1 12).trans c12, (f1 15).trans c15⟩, ⟨k46 _, k46 _, k46 _, k46 _, k46 _, k46 _, k46 _, k46 _⟩, ⟨(congrFun (fJ 1 (by decide)) 5).trans cj, k47 _⟩, fun j hj => ⟨(congrFun (f 2 (by decide) (by decide)) j).trans (w1 j hj), ?_⟩, fun j hj => ⟨(congrFun (f 3 (by decide) (by decide)) j).trans (w2 j hj), ?_, (congrFun (f 7 (by decide) (by decide)) j).trans (w6 j hj), (congrFun (f 8 (by decide) (by decide)) j).trans (w7 j hj), ?_, ?_⟩, fun j hj => ⟨(congrFun (f 4 (by decide) (by decide)) j).trans (w3 j hj), ?_⟩, fun j hj => ⟨(congrFun (f 5 (by decide) (by decide)) j).trans (w4 j hj), ?_⟩, fun j hj => ⟨?_, (congrFun (fJ 6 (by decide)) j).trans (w5 j hj)⟩⟩ hL, TOK_ag hT rfl rfl rfl rfl rfl, PdI_ag hp (congrFun e33 16) (congrFun (eI 10 (by decide) (by decide) (by decide) (by decide) (by decide)) 1) (eI 11 (by decide) (by decide) (by decide) (by decide) (by decide)) ((rsI_q (by decide)).trans (eI 41 (by decide) (by decide) (by decide) (by decide) (by decide))), PW_ag hpw (eI 28 (by decide) (by decide) (by decide) (by decide) (by decide)), IMGS_g him e46 (eI 48 (by decide) (by decide) (by decide) (by decide) (by decide)) e47 (fun q hq => (rsI_q (by omega)).trans (eI q (by omega) (by omega) (by omega) (by omega) (by omega))) (fun q hq => (rsJ_q (by omega)).trans (eJ q (by omega) (by omega)))⟩
  · show (if j < 24 then I' 46 (100 * a + j) else _) = I 46 (100 * a + j); rw [if_pos hj]; exact k46 _
  · show (if j < 6 then I' 46 (100 * a + 24 + j) else _) = I 46 (100 * a + 24 + j); rw [if_pos hj]; exact k46 _
  · show (if j < 6 then I' 46 (100 * a + 30 + j) else _) = I 46 (100 * a + 30 + j); rw [if_pos hj]; exact k46 _
  · show (if j < 6 then J' 47 (7 * a + j) else _) = J 47 (7 * a + j); rw [if_pos hj]; exact k47 _
  · show (if j < 4 then I' 46 (100 * a + 36 + j) else _) = I 46 (100 * a + 36 + j); rw [if_pos hj]; exact k46 _
  · show (if j < 16 then I' 46 (100 * a + 40 + j) else _) = I 46 (100 * a + 40 + j); rw [if_pos hj]; exact k46 _
  · show (if j < 12 then I' 46 (100 * a + 56 + j) else _) = I 46 (100 * a + 56 + j); rw [if_pos hj]; exact k46 _
theorem st_restore (a : Int32) (hG : GI n I J X) : ∃ r, Both xl xs 2 47 mX6_restore 1 22 mX7_restore [.int a] n I J X (.int r) := by
  have hG0 := hG
  obtain ⟨t, sl, wy, wi, he, u, P, c, sg, ⟨hk, hu, hft, hcm⟩, ht, hp, hpw, him⟩ := hG
  have hn := IMGS_n him
  have h6 := hk.1.2.2.1
  have ht2 := hk.1.2.1
  have h64 := p2_le h6
  cases hv : inb a 0 1 with
  | false => exact ⟨_, bothS (k_X6_restore_f hn hv) (s_X7_restore_f hn hv) hG0⟩
  | true =>
    obtain ⟨nn, -, hnn, rfl⟩ := inb_lo (lo := 0) (hi := 1) (by decide) hv (by decide)
    have h1 : nn < 2 := by omega
    cases hX : X nn with
    | none => exact ⟨_, bothS (k_X6_restore_n hn h1 hX) (s_X7_restore_n hn h1 ((him.2.2 nn h1).1 hX)) hG0⟩
    | some p =>
      obtain ⟨hp2, hpn⟩ := IMGS_p him h1 hX
      obtain ⟨g1, m, sl', wy', wi', he', u', P', c', hL⟩ := (him.2.2 nn h1).2 p hX
      rcases hp2 with rfl | rfl
      ·
          refine ⟨_, fun S T => rnX_mono (k_X6_restore_49 hpn h1 hX (hL.1.2.1.1) hL.1.1.2.1 hL.1.1.2.2.1 ht h6) (fun I1 S1 J1 T1 hrs S2 T2 => ?_)⟩
          have e48 : I1 48 = I 48 := by
            obtain ⟨I9, _, _, _, hcp, hI, -, -⟩ := hrs
            exact (hI 48 (by decide) (by decide) (by decide) (by decide)).trans (hcp.2.2.1 48 (by omega)).1
          exact rnX_S (s_X7_restore (I := I1) (J := J1) hn h1 ((congrFun e48 nn).trans g1)) (fun _ _ => GI_rs hG0 h1 (by decide) hL hrs)
      ·
          refine ⟨_, fun S T => rnX_mono (k_X6_restore_57 hpn h1 hX (hL.1.2.1.1) hL.1.1.2.1 hL.1.1.2.2.1 ht h6) (fun I1 S1 J1 T1 hrs S2 T2 => ?_)⟩
          have e48 : I1 48 = I 48 := by
            obtain ⟨I9, _, _, _, hcp, hI, -, -⟩ := hrs
            exact (hI 48 (by decide) (by decide) (by decide) (by decide)).trans (hcp.2.2.1 48 (by omega)).1
          exact rnX_S (s_X7_restore (I := I1) (J := J1) hn h1 ((congrFun e48 nn).trans g1)) (fun _ _ => GI_rs hG0 h1 (by decide) hL hrs)
end STEP3
