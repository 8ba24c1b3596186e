theorem IMV_ag2 {I I' : Nat → Nat → Int32} {J J' : Nat → Nat → Int64} {a p : Nat} (h46 : ∀ k, k < 76 → I' 46 (100 * a + k) = I 46 (100 * a + k)) (h47 : ∀ k, k < 7 → J' 47 (7 * a + k) = J 47 (7 * a + k)) (hI : ∀ k, k < 8 → I' (p + k) = I (p + k)) (hJ : ∀ k, k < 8 → J' (p + k) = J (p + k)) (h : IMV I J a p) : IMV I' J' a p := by
  obtain ⟨t, sl, wy, wi, he, u, P, c, h⟩ := h
  have f0 : ∀ j, I' p j = I p j := fun j => congrFun (hI 0 (by decide)) j
  have fI : ∀ k, k < 8 → ∀ j, I' (p + k) j = I (p + k) j := fun k hk j => congrFun (hI k hk) j
  have g0 : ∀ j, J' p j = J p j := fun j => congrFun (hJ 0 (by decide)) j
  have gJ : ∀ k, k < 8 → ∀ j, J' (p + k) j = J (p + k) j := fun k hk j => congrFun (hJ k hk) j
  have e46 : ∀ x k, k < 76 → x = 100 * a + k → I' 46 x = I 46 x := fun x k hk e => by rw [e]; exact h46 k hk
  have e47 : ∀ x k, k < 7 → x = 7 * a + k → J' 47 x = J 47 x := fun x k hk e => by rw [e]; exact h47 k hk
  exact ⟨t, sl, wy, wi, he, u, P, c, LV_ag (I := rvI I a p) (J := rvJ J a p) (I' := rvI I' a p) (J' := rvJ J' a p) ⟨⟨f0 0, f0 1, f0 2, f0 3, f0 4, f0 10, f0 12, f0 15⟩, ⟨h46 68 (by decide), h46 69 (by decide), h46 70 (by decide), h46 71 (by decide), h46 72 (by decide), h46 73 (by decide), h46 74 (by decide), h46 75 (by decide)⟩, ⟨g0 5, h47 6 (by decide)⟩, fun j hj => ⟨fI 1 (by decide) j, h46 j (by omega)⟩, fun j hj => ⟨fI 2 (by decide) j, e46 _ (24 + j) (by omega) (by omega), fI 6 (by decide) j, fI 7 (by decide) j, e46 _ (30 + j) (by omega) (by omega), h47 j (by omega)⟩, fun j hj => ⟨fI 3 (by decide) j, e46 _ (36 + j) (by omega) (by omega)⟩, fun j hj => ⟨fI 4 (by decide) j, e46 _ (40 + j) (by omega) (by omega)⟩, fun j hj => ⟨e46 _ (56 + j) (by omega) (by omega), gJ 5 (by decide) j⟩⟩ h⟩
def shp (n : Nat) (X : Nat → Option Nat) : Prop := (n = 49 ∧ X 0 = none ∧ X 1 = none) ∨ (∃ a, a < 2 ∧ n = 57 ∧ X a = some 49 ∧ X (1 - a) = none) ∨ (∃ a, a < 2 ∧ n = 65 ∧ X a = some 49 ∧ X (1 - a) = some 57)
theorem im_46 {I I0 : Nat → Nat → Int32} {b x nn : Nat} (h : x < b + 68 ∨ b + 76 ≤ x) : wr (wr (wr (wr (wr (wr (wr (wr (wr I0 46 (b + 68) (I 33 0)) 46 (b + 69) (I 33 4)) 46 (b + 70) (I 33 5)) 46 (b + 71) (I 33 6)) 46 (b + 72) (I 33 7)) 46 (b + 73) (I 33 9)) 46 (b + 74) (I 33 11)) 46 (b + 75) (I 33 14)) 48 nn 1 46 x = I0 46 x := by
  simp [setI, upd, show x ≠ b + 68 by omega, show x ≠ b + 69 by omega, show x ≠ b + 70 by omega, show x ≠ b + 71 by omega, show x ≠ b + 72 by omega, show x ≠ b + 73 by omega, show x ≠ b + 74 by omega, show x ≠ b + 75 by omega]
theorem im_68 {I I0 : Nat → Nat → Int32} {b nn : Nat} {K : Nat → Nat → Int32} (e : K = wr (wr (wr (wr (wr (wr (wr (wr (wr I0 46 (b + 68) (I 33 0)) 46 (b + 69) (I 33 4)) 46 (b + 70) (I 33 5)) 46 (b + 71) (I 33 6)) 46 (b + 72) (I 33 7)) 46 (b + 73) (I 33 9)) 46 (b + 74) (I 33 11)) 46 (b + 75) (I 33 14)) 48 nn 1) : K 46 (b + 68) = I 33 0 ∧ K 46 (b + 69) = I 33 4 ∧ K 46 (b + 70) = I 33 5 ∧ K 46 (b + 71) = I 33 6 ∧ K 46 (b + 72) = I 33 7 ∧ K 46 (b + 73) = I 33 9 ∧ K 46 (b + 74) = I 33 11 ∧ K 46 (b + 75) = I 33 14 := by
  subst e
  refine ⟨?_, ?_, ?_, ?_, ?_, ?_, ?_, ?_⟩ <;> simp [setI, upd]
theorem GI_img {n n' : Nat} {I I1 I2 S1 : Nat → Nat → Int32} {J J1 J2 T1 : Nat → Nat → Int64} {X X' : Nat → Option Nat} {b nn : Nat} (hG : GI n I J X) (hcp : cpP b 1 I S1 J T1 I1 S1 J1 T1) (hi : imP I1 J1 nn I2 J2) (hb : b = 49 ∨ b = 57) (hnn : nn < 2) (hX : X' nn = some b) (hXo : X' (1 - nn) = X (1 - nn)) (hsh : shp n' X') (hz : ∀ q, n' ≤ q → q < 65 → (I q = fun _ => 0) ∧ (J q = fun _ => 0)) (hbn : b + 8 ≤ n') (hot : ∀ p, X (1 - nn) = some p → p + 8 ≤ b ∨ b + 8 ≤ p) : GI n' I2 J2 X' := by
  obtain ⟨t, sl, wy, wi, he, u, P, c, sg, hL, ht, hp, hpw, him⟩ := hG
  obtain ⟨-, -, h3, ⟨c0, c1, c2, c3, c4, c10, c12, c15⟩, cj, w1, w2, w3, w4, w5, w6, w7⟩ := hcp
  obtain ⟨I0, J0, ⟨g1, g2, g6, g3, g4, g5, g7, g8⟩, ⟨k1, k2, k3⟩, e2, f2⟩ := hi
  obtain ⟨m0, m4, m5, m6, m7, m9, m11, m14⟩ := im_68 e2
  have x46 : ∀ x, (x < 100 * nn + 68 ∨ 100 * nn + 76 ≤ x) → I2 46 x = I0 46 x := fun x hx => by rw [e2]; exact im_46 hx
  have x47 : ∀ x, x ≠ 7 * nn + 6 → J2 47 x = J0 47 x := fun x hx => by rw [f2]; show vp_updL (J0 47) _ _ x = _; exact pk_uLn hx
  have x476 : J2 47 (7 * nn + 6) = J1 33 8 := by rw [f2]; show vp_updL (J0 47) _ _ _ = _; exact pk_uLs
  have x48 : I2 48 nn = 1 := by rw [e2]; show upd _ nn 1 nn = 1; exact pk_us
  have x48o : ∀ x, x ≠ nn → I2 48 x = I 48 x := fun x hx => by
    rw [e2]
    show upd (I0 48) nn 1 x = _
    rw [pk_un hx, g8 48 (by decide), (h3 48 (by omega)).1]
  have eq2 : ∀ q, q ≠ 46 → q ≠ 48 → I2 q = I1 q := fun q h1 h2 => by
    rw [← g8 q h1, e2]; simp [setI, h1, h2]
  have jq2 : ∀ q, q ≠ 47 → J2 q = J1 q := fun q h1 => by rw [← k3 q h1, f2]; simp [setJ, h1]
  have live : ∀ q, q < 46 → I2 q = I q := fun q hq => (eq2 q (by omega) (by omega)).trans (h3 q (by omega)).1
  have liveJ : ∀ q, q < 46 → J2 q = J q := fun q hq => (jq2 q (by omega)).trans (h3 q (by omega)).2
  have L : ∀ q, q < 46 → ∀ j, I2 q j = I q j := fun q hq j => congrFun (live q hq) j
  have LJ : ∀ q, q < 46 → ∀ j, J2 q j = J q j := fun q hq j => congrFun (liveJ q hq) j
  have i33 : I1 33 = I 33 := (h3 33 (by omega)).1
  have j33 : J1 33 = J 33 := (h3 33 (by omega)).2
  have bI : ∀ k, k < 8 → ∀ j, I2 (b + k) j = I1 (b + k) j := fun k hk j => congrFun (eq2 (b + k) (by omega) (by omega)) j
  have bJ : ∀ k, k < 8 → ∀ j, J2 (b + k) j = J1 (b + k) j := fun k hk j => congrFun (jq2 (b + k) (by omega)) j
  have hIM : IMV I2 J2 nn b := by
    refine ⟨t, sl, wy, wi, he, u, P, c, LV_ag (I := I) (J := J) (I' := rvI I2 nn b) (J' := rvJ J2 nn b) ⟨⟨(bI 0 (by decide) 0).trans c0, (bI 0 (by decide) 1).trans c1, (bI 0 (by decide) 2).trans c2, (bI 0 (by decide) 3).trans c3, (bI 0 (by decide) 4).trans c4, (bI 0 (by decide) 10).trans c10, (bI 0 (by decide) 12).trans c12, (bI 0 (by decide) 15).trans c15⟩, ⟨m0.trans (congrFun i33 0), m4.trans (congrFun i33 4), m5.trans (congrFun i33 5), m6.trans (congrFun i33 6), m7.trans (congrFun i33 7), m9.trans (congrFun i33 9), m11.trans (congrFun i33 11), m14.trans (congrFun i33 14)⟩, ⟨(bJ 0 (by decide) 5).trans cj, x476.trans (congrFun j33 8)⟩, fun j hj => ⟨(bI 1 (by decide) j).trans (w1 j hj), ?_⟩, fun j hj => ⟨(bI 2 (by decide) j).trans (w2 j hj), ?_, (bI 6 (by decide) j).trans (w6 j hj), (bI 7 (by decide) j).trans (w7 j hj), ?_, ?_⟩, fun j hj => ⟨(bI 3 (by decide) j).trans (w3 j hj), ?_⟩, fun j hj => ⟨(bI 4 (by decide) j).trans (w4 j hj), ?_⟩, fun j hj => ⟨?_, (bJ 5 (by decide) j).trans (w5 j hj)⟩⟩ hL⟩
    · exact (x46 _ (by omega)).trans ((g1 j hj).trans (congrFun (h3 34 (by omega)).1 j))
    · exact (x46 _ (by omega)).trans ((g2 j hj).trans (congrFun (h3 35 (by omega)).1 j))
    · exact (x46 _ (by omega)).trans ((g6 j hj).trans (congrFun (h3 39 (by omega)).1 j))
    · exact (x47 _ (by omega)).trans ((k1 j hj).trans (congrFun (h3 38 (by omega)).2 j))
    · exact (x46 _ (by omega)).trans ((g3 j hj).trans (congrFun (h3 36 (by omega)).1 j))
    · exact (x46 _ (by omega)).trans ((g4 j hj).trans (congrFun (h3 37 (by omega)).1 j))
    · exact (x46 _ (by omega)).trans ((g5 j hj).trans (congrFun (h3 40 (by omega)).1 j))
  refine ⟨t, sl, wy, wi, he, u, P, c, sg, LV_ag (I := I) (J := J) (I' := I2) (J' := J2) ⟨⟨L 1 (by decide) _, L 1 (by decide) _, L 1 (by decide) _, L 1 (by decide) _, L 1 (by decide) _, L 1 (by decide) _, L 1 (by decide) _, L 1 (by decide) _⟩, ⟨L 33 (by decide) _, L 33 (by decide) _, L 33 (by decide) _, L 33 (by decide) _, L 33 (by decide) _, L 33 (by decide) _, L 33 (by decide) _, L 33 (by decide) _⟩, ⟨LJ 1 (by decide) _, LJ 33 (by decide) _⟩, fun j _ => ⟨L 2 (by decide) j, L 34 (by decide) j⟩, fun j _ => ⟨L 3 (by decide) j, L 35 (by decide) j, L 7 (by decide) j, L 8 (by decide) j, L 39 (by decide) j, LJ 38 (by decide) j⟩, fun j _ => ⟨L 4 (by decide) j, L 36 (by decide) j⟩, fun j _ => ⟨L 5 (by decide) j, L 37 (by decide) j⟩, fun j _ => ⟨L 40 (by decide) j, LJ 6 (by decide) j⟩⟩ hL, TOK_ag ht (live 16 (by decide)) (live 17 (by decide)) (live 18 (by decide)) (live 20 (by decide)) (liveJ 19 (by decide)), PdI_ag hp (L 33 (by decide) _) (L 10 (by decide) _) (live 11 (by decide)) (live 41 (by decide)), PW_ag hpw (live 28 (by decide)), hsh, fun q h1 h2 => ?_, fun a ha => ?_⟩
  · rw [eq2 q (by omega) (by omega), jq2 q (by omega), (h3 q (by omega)).1, (h3 q (by omega)).2]; exact hz q h1 h2
  · by_cases e : a = nn
    · subst e
      rw [hX]
      exact ⟨fun h => (by cases h), fun p h => (by cases h; exact ⟨x48, hIM⟩)⟩
    · have ea : a = 1 - nn := by omega
      have hXa : X' a = X a := by rw [ea]; exact hXo
      rw [hXa, x48o a e]
      refine ⟨(him.2.2 a ha).1, fun p hx => ?_⟩
      obtain ⟨q1, q2⟩ := (him.2.2 a ha).2 p hx
      have hpp := IMGS_p him ha hx
      have hd := hot p (by rw [← ea]; exact hx)
      refine ⟨q1, IMV_ag2 (fun k hk => ?_) (fun k hk => ?_) (fun k hk => ?_) (fun k hk => ?_) q2⟩
      · rw [x46 _ (by omega), g7 _ (by omega), (h3 46 (by omega)).1]
      · rw [x47 _ (by omega), k2 _ (by omega), (h3 47 (by omega)).2]
      · rw [eq2 _ (by omega) (by omega), (h3 _ (by omega)).1]
      · rw [jq2 _ (by omega), (h3 _ (by omega)).2]
section STEP4
variable {xl : Nat} {xs : Nat → Int32} {n : Nat} {I S : Nat → Nat → Int32} {J T : Nat → Nat → Int64} {X : Nat → Option Nat}
theorem st_image_f {a : Int32} (hG : GI n I J X) (hv : inb a 0 1 = false) : Both xl xs 2 47 mX6_image 1 22 mX7_image [.int a] n I J X (.int (-2)) := by
  have hG0 := hG
  obtain ⟨t, sl, wy, wi, he, u, P, c, sg, hL, ht, hp, hpw, him⟩ := hG
  have hn := IMGS_n him
  exact bothS (k_X6_image_f hn hv) (s_X7_image_f hn hv) hG0
theorem st_image_old {nn p : Nat} (hG : GI n I J X) (h1 : nn < 2) (hX : X nn = some p) : Both xl xs 2 47 mX6_image 1 22 mX7_image [.int (nI nn)] n I J X (.int 1) := by
  have hG0 := hG
  obtain ⟨t, sl, wy, wi, he, u, P, c, sg, hL, ht, hp, hpw, him⟩ := hG
  have hn := IMGS_n him
  obtain ⟨hp2, hpn⟩ := IMGS_p him h1 hX
  have hot : ∀ q, X (1 - nn) = some q → q + 8 ≤ p ∨ p + 8 ≤ q := fun q hq => by
    rcases him.1 with ⟨-, h2, h3⟩ | ⟨b, hb, -, h2, h3⟩ | ⟨b, hb, -, h2, h3⟩
    · rcases a2 h1 with rfl | rfl
      · rw [h2] at hX; cases hX
      · rw [h3] at hX; cases hX
    · by_cases e : nn = b
      · rw [e, h3] at hq; cases hq
      · rw [show nn = 1 - b by omega, h3] at hX; cases hX
    · by_cases e : nn = b
      · rw [e, h2] at hX; rw [e, h3] at hq; cases hX; cases hq; omega
      · rw [show nn = 1 - b by omega, h3] at hX; rw [show 1 - nn = b by omega, h2] at hq; cases hX; cases hq; omega
  rcases hp2 with rfl | rfl
  · exact fun S T => rnX_mono (k_X6_image_49 hpn h1 hX) (fun I1 S1 J1 T1 hc S2 T2 => by
      obtain ⟨S3, T3, hc⟩ := hc
      exact rnX_G (s_X7_image hn h1) (fun I2 _ J2 _ hi => GI_img hG0 hc hi (Or.inl rfl) h1 hX rfl him.1 him.2.1 hpn hot))
  · exact fun S T => rnX_mono (k_X6_image_57 hpn h1 hX) (fun I1 S1 J1 T1 hc S2 T2 => by
      obtain ⟨S3, T3, hc⟩ := hc
      exact rnX_G (s_X7_image hn h1) (fun I2 _ J2 _ hi => GI_img hG0 hc hi (Or.inr rfl) h1 hX rfl him.1 him.2.1 hpn hot))
def BothN (xl : Nat) (xs : Nat → Int32) (n : Nat) (I : Nat → Nat → Int32) (J : Nat → Nat → Int64) (X : Nat → Option Nat) (nn : Nat) : Prop := ∀ (S : Nat → Nat → Int32) (T : Nat → Nat → Int64) (Q : QT), (∀ I1 S1 J1 T1, (∀ S2 T2, RnX xl xs 1 22 mX7_image [.ref 33, .int (nI nn)] (n + 8) I1 S2 J1 T2 (va_up X nn (some n)) (some (.int 1)) (fun I2 _ J2 _ => GI (n + 8) I2 J2 (va_up X nn (some n)))) → Q (some (.int 1)) (n + 8) (sysH (ov I1 S1) (ovJ J1 T1) (va_up X nn (some n)))) → RnQ xl xs 2 47 8 90 mX6_image [.ref 0, .int (nI nn)] n (sysH (ov I S) (ovJ J T) X) Q
theorem vu_s {X : Nat → Option Nat} {k p : Nat} : va_up X k (some p) k = some p := by simp [va_up]
theorem vu_n {X : Nat → Option Nat} {k j p : Nat} (h : j ≠ k) : va_up X k (some p) j = X j := by simp [va_up, h]
theorem st_image_new {nn : Nat} (hG : GI n I J X) (h1 : nn < 2) (hX : X nn = none) : (n = 49 ∨ n = 57) ∧ BothN xl xs n I J X nn := by
  have hG0 := hG
  obtain ⟨t, sl, wy, wi, he, u, P, c, sg, hL, ht, hp, hpw, him⟩ := hG
  have hn := IMGS_n him
  rcases him.1 with ⟨rfl, h2, h3⟩ | ⟨b, hb, rfl, h2, h3⟩ | ⟨b, hb, rfl, h2, h3⟩
  · refine ⟨Or.inl rfl, fun S T Q hQ => k_X6_image_new49 h1 hX (fun q a1 a2 => (him.2.1 q a1 (by omega)).1) (by rw [(him.2.1 49 (by decide) (by decide)).2]) (him.2.1 54 (by decide) (by decide)).2 (fun I1 S1 J1 T1 hc => hQ I1 S1 J1 T1 (fun S2 T2 => ?_))⟩
    obtain ⟨S3, T3, hc⟩ := hc
    have ho : X (1 - nn) = none := by rcases a2 h1 with rfl | rfl; exact h3; exact h2
    refine rnX_G (s_X7_image (by decide) h1) (fun I2 _ J2 _ hi => GI_img hG0 hc hi (Or.inl rfl) h1 vu_s (vu_n (by omega)) (Or.inr (Or.inl ⟨nn, h1, rfl, vu_s, by rw [vu_n (by omega)]; exact ho⟩)) (fun q a1 a2 => him.2.1 q (by omega) a2) (by decide) (fun p hpx => by rw [ho] at hpx; cases hpx))
  · have eb : nn = 1 - b := by
      by_cases e : nn = b
      · rw [e, h2] at hX; cases hX
      · omega
    refine ⟨Or.inr rfl, fun S T Q hQ => k_X6_image_new57 h1 hX (fun q a1 a2 => (him.2.1 q a1 (by omega)).1) (by rw [(him.2.1 57 (by decide) (by decide)).2]) (him.2.1 62 (by decide) (by decide)).2 (fun I1 S1 J1 T1 hc => hQ I1 S1 J1 T1 (fun S2 T2 => ?_))⟩
    obtain ⟨S3, T3, hc⟩ := hc
    have ho : X (1 - nn) = some 49 := by rw [show 1 - nn = b by omega]; exact h2
    refine rnX_G (s_X7_image (by decide) h1) (fun I2 _ J2 _ hi => GI_img hG0 hc hi (Or.inr rfl) h1 vu_s (vu_n (by omega)) (Or.inr (Or.inr ⟨1 - nn, by omega, rfl, by rw [vu_n (by omega)]; exact ho, by rw [show 1 - (1 - nn) = nn by omega]; exact vu_s⟩)) (fun q a1 a2 => him.2.1 q (by omega) a2) (by decide) (fun p hpx => by rw [ho] at hpx; cases hpx; omega))
  · exfalso
    by_cases e : nn = b
    · rw [e, h2] at hX; cases hX
    · rw [show nn = 1 - b by omega, h3] at hX; cases hX
end STEP4
theorem GI_init {I1 : Nat → Nat → Int32} {J1 : Nat → Nat → Int64} (h : thP Z0 ZJ 4 I1 Z0 J1 ZJ) : GI 49 (plI I1) (wrJ J1 33 8 (allL 4)) NX := by
  obtain ⟨hI, hJ, hT⟩ := h
  have e33 : I1 33 = Z0 33 := (hI 33 (by decide) (by decide) (by decide) (by decide)).trans (bgI_q (by decide))
  have hid : wr I1 33 0 (nI 4) = I1 := wr_id ((congrFun e33 0).trans rfl)
  have hL := LV_th (m := 4) (by decide) (by decide) hI hJ
  rw [hid] at hL
  have hz : ∀ q, 5 ≤ q → q ≠ 16 → q ≠ 17 → q ≠ 18 → q ≠ 20 → I1 q = Z0 q := fun q h a1 a2 a3 a4 => (hI q a1 a2 a3 a4).trans (bgI_q h)
  have hZ : ∀ q, q ≠ 33 → Z0 q = fun _ => 0 := fun q hq => by funext j; show (bif (q == 33 && j == 0) then (4 : Int32) else 0) = 0; rw [beq_false_of_ne hq]; rfl
  refine ⟨4, 6, 0, 0, 0, 0, 0, 0, 0, hL, TOK_ag hT rfl rfl rfl rfl rfl, ⟨(congrFun e33 16).trans rfl, (congrFun (hz 10 (by decide) (by decide) (by decide) (by decide) (by decide)) 1).trans rfl, by decide, fun j _ => ?_⟩, fun w _ => ⟨0, by decide, (congrFun (hz 28 (by decide) (by decide) (by decide) (by decide) (by decide)) w).trans rfl⟩, Or.inl ⟨rfl, rfl, rfl⟩, fun q h1 h2 => ⟨?_, ?_⟩, fun a ha => ⟨fun _ => (congrFun (hz 48 (by decide) (by decide) (by decide) (by decide) (by decide)) a).trans rfl, fun p hp => by cases hp⟩⟩
  · exact (congrFun (hz 11 (by decide) (by decide) (by decide) (by decide) (by decide)) j).trans ((congrFun (hz 41 (by decide) (by decide) (by decide) (by decide) (by decide)) j).trans rfl).symm
  · rw [plI_q (by omega), hz q (by omega) (by omega) (by omega) (by omega) (by omega), hZ q (by omega)]
  · rw [show wrJ J1 33 8 (allL 4) q = J1 q from (by simp [setJ, show q ≠ 33 by omega]), hJ q (by omega), bgJ_q (by omega)]; rfl
