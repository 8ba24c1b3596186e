def UN (I : Nat → Nat → Int32) (t u : Nat) : Prop := u ≤ 16 ∧ I 33 9 = nI u ∧ I 1 10 = nI u ∧ ∀ j, j < u → I 5 j = I 37 j ∧ ∃ w, w < 2 ^ t ∧ I 37 j = nI w
/-- all that an image keeps, in class and reference alike -/
def LV (I : Nat → Nat → Int32) (J : Nat → Nat → Int64) (t sl wy wi he u P c : Nat) : Prop := KI I J t sl wy wi he ∧ UN I t u ∧ FTI I J t P ∧ CMI I t c
def AG (I : Nat → Nat → Int32) (J : Nat → Nat → Int64) (I' : Nat → Nat → Int32) (J' : Nat → Nat → Int64) : Prop := (I' 1 0 = I 1 0 ∧ I' 1 1 = I 1 1 ∧ I' 1 2 = I 1 2 ∧ I' 1 3 = I 1 3 ∧ I' 1 4 = I 1 4 ∧ I' 1 10 = I 1 10 ∧ I' 1 12 = I 1 12 ∧ I' 1 15 = I 1 15) ∧ (I' 33 0 = I 33 0 ∧ I' 33 4 = I 33 4 ∧ I' 33 5 = I 33 5 ∧ I' 33 6 = I 33 6 ∧ I' 33 7 = I 33 7 ∧ I' 33 9 = I 33 9 ∧ I' 33 11 = I 33 11 ∧ I' 33 14 = I 33 14) ∧ (J' 1 5 = J 1 5 ∧ J' 33 8 = J 33 8) ∧ (∀ j, j < 24 → I' 2 j = I 2 j ∧ I' 34 j = I 34 j) ∧ (∀ j, j < 6 → I' 3 j = I 3 j ∧ I' 35 j = I 35 j ∧ I' 7 j = I 7 j ∧ I' 8 j = I 8 j ∧ I' 39 j = I 39 j ∧ J' 38 j = J 38 j) ∧ (∀ j, j < 4 → I' 4 j = I 4 j ∧ I' 36 j = I 36 j) ∧ (∀ j, j < 16 → I' 5 j = I 5 j ∧ I' 37 j = I 37 j) ∧ (∀ j, j < 12 → I' 40 j = I 40 j ∧ J' 6 j = J 6 j)
theorem allN_congr {f g : Nat → Bool} : ∀ {k : Nat}, (∀ i, i < k → f i = g i) → allN f k = allN g k
  | 0, _ => by show true = true; rfl
  | k + 1, h => by
    show (allN f k && f k) = (allN g k && g k)
    rw [allN_congr (fun i hi => h i (by omega)), h k (by omega)]
theorem tsF_ag {I I' : Nat → Nat → Int32} {J J' : Nat → Nat → Int64} {t P num : Nat} (h : ∀ j, j < P → I' 39 j = I 39 j ∧ J' 38 j = J 38 j) : tsF I' J' t P num = tsF I J t P num := by
  unfold tsF
  refine allN_congr (fun i hi => ?_)
  unfold tsP pvN
  rw [(h i hi).1, (h i hi).2]
theorem LV_ag {I I' : Nat → Nat → Int32} {J J' : Nat → Nat → Int64} {t sl wy wi he u P c : Nat} (a : AG I J I' J') (h : LV I J t sl wy wi he u P c) : LV I' J' t sl wy wi he u P c := by
  obtain ⟨⟨a0, a1, a2, a3, a4, a10, a12, a15⟩, ⟨m0, m4, m5, m6, m7, m9, m11, m14⟩, ⟨j1, j2⟩, b24, b6, b4, b16, b12⟩ := a
  obtain ⟨⟨⟨k1, k2, k3, k4, k5, k6, k7, k8, k9, k10, k11⟩, ⟨c0, c1, c2, c3, c4⟩, ⟨l1, l2⟩, w1, w2, w3⟩, ⟨u1, u2, u3, u4⟩, ⟨p1, p2, p3, p4, p5⟩, ⟨q1, q2, q3, q4⟩⟩ := h
  have h729 := p3_le k3
  refine ⟨⟨⟨m0.trans k1, k2, k3, m6.trans k4, k5, m4.trans k6, k7, m5.trans k8, k9, m7.trans k10, k11⟩, ⟨a0.trans c0, a1.trans c1, a2.trans c2, a3.trans c3, a4.trans c4⟩, ⟨by rw [j1, j2]; exact l1, by rw [j2]; exact l2⟩, fun j hj => ?_, fun j hj => ?_, fun j hj => ?_⟩, ⟨u1, m9.trans u2, a10.trans u3, fun j hj => ?_⟩, ⟨p1, m11.trans p2, a12.trans p3, fun j hj => ?_, fun num hn => ?_⟩, ⟨q1, m14.trans q2, a15.trans q3, fun i hi => ?_⟩⟩
  · rw [(b24 j hj).1, (b24 j hj).2]; exact w1 j hj
  · rw [(b6 j hj).1, (b6 j hj).2.1]; exact w2 j hj
  · rw [(b4 j hj).1, (b4 j hj).2]; exact w3 j hj
  · rw [(b16 j (by omega)).1, (b16 j (by omega)).2]; exact u4 j hj
  · have e := (b6 j (by omega)).2.2.2.2.1
    unfold pvN
    rw [e]; exact p4 j hj
  · rw [tsF_ag (fun j hj => ⟨(b6 j (by omega)).2.2.2.2.1, (b6 j (by omega)).2.2.2.2.2⟩)]
    rw [← p5 num hn]
    unfold fitB
    rw [(b12 (num / 64) (by omega)).2]
  · have e1 := (b6 i (by omega)).2.2.1
    have e2 := (b6 i (by omega)).2.2.2.1
    have e3 := (b12 (2 * i) (by omega)).1
    have e4 := (b12 (2 * i + 1) (by omega)).1
    unfold cfN
    rw [e1, e2, e3, e4]
    exact q4 i hi
/-- the stores, as a restoring of image a, kept at place p, would make them -/
def mfI : Nat → Nat
  | 0 => 68
  | 4 => 69
  | 5 => 70
  | 6 => 71
  | 7 => 72
  | 9 => 73
  | 11 => 74
  | 14 => 75
  | _ => 99
def rvI (I : Nat → Nat → Int32) (a p : Nat) : Nat → Nat → Int32 := fun q j => match q with
  | 1 => I p j
  | 2 => I (p + 1) j
  | 3 => I (p + 2) j
  | 4 => I (p + 3) j
  | 5 => I (p + 4) j
  | 7 => I (p + 6) j
  | 8 => I (p + 7) j
  | 33 => I 46 (100 * a + mfI j)
  | 34 => I 46 (100 * a + j)
  | 35 => I 46 (100 * a + 24 + j)
  | 39 => I 46 (100 * a + 30 + j)
  | 36 => I 46 (100 * a + 36 + j)
  | 37 => I 46 (100 * a + 40 + j)
  | 40 => I 46 (100 * a + 56 + j)
  | q => I q j
def rvJ (J : Nat → Nat → Int64) (a p : Nat) : Nat → Nat → Int64 := fun q j => match q with
  | 1 => J p j
  | 6 => J (p + 5) j
  | 33 => J 47 (7 * a + 6)
  | 38 => J 47 (7 * a + j)
  | q => J q j
def IMV (I : Nat → Nat → Int32) (J : Nat → Nat → Int64) (a p : Nat) : Prop := ∃ t sl wy wi he u P c, LV (rvI I a p) (rvJ J a p) t sl wy wi he u P c
theorem IMV_ag {I I' : Nat → Nat → Int32} {J J' : Nat → Nat → Int64} {a p : Nat} (h46 : I' 46 = I 46) (h47 : J' 47 = J 47) (hI : ∀ k, k < 8 → I' (p + k) = I (p + k)) (hJ : ∀ k, k < 8 → J' (p + k) = J (p + k)) (h : IMV I J a p) : IMV I' J' a p := by
  obtain ⟨t, sl, wy, wi, he, u, P, c, h⟩ := h
  have f0 : ∀ j, I' p j = I p j := fun j => congrFun (hI 0 (by decide)) j
  have fI : ∀ k, k < 8 → ∀ j, I' (p + k) j = I (p + k) j := fun k hk j => congrFun (hI k hk) j
  have g0 : ∀ j, J' p j = J p j := fun j => congrFun (hJ 0 (by decide)) j
  have gJ : ∀ k, k < 8 → ∀ j, J' (p + k) j = J (p + k) j := fun k hk j => congrFun (hJ k hk) j
  have e46 : ∀ j, I' 46 j = I 46 j := fun j => congrFun h46 j
  have e47 : ∀ j, J' 47 j = J 47 j := fun j => congrFun h47 j
  exact ⟨t, sl, wy, wi, he, u, P, c, LV_ag (I := rvI I a p) (J := rvJ J a p) (I' := rvI I' a p) (J' := rvJ J' a p) ⟨⟨f0 0, f0 1, f0 2, f0 3, f0 4, f0 10, f0 12, f0 15⟩, ⟨e46 _, e46 _, e46 _, e46 _, e46 _, e46 _, e46 _, e46 _⟩, ⟨g0 5, e47 _⟩, fun j _ => ⟨fI 1 (by decide) j, e46 _⟩, fun j _ => ⟨fI 2 (by decide) j, e46 _, fI 6 (by decide) j, fI 7 (by decide) j, e46 _, e47 _⟩, fun j _ => ⟨fI 3 (by decide) j, e46 _⟩, fun j _ => ⟨fI 4 (by decide) j, e46 _⟩, fun j _ => ⟨e46 _, gJ 5 (by decide) j⟩⟩ h⟩
def IMGS (n : Nat) (I : Nat → Nat → Int32) (J : Nat → Nat → Int64) (X : Nat → Option Nat) : Prop := ((n = 49 ∧ X 0 = none ∧ X 1 = none) ∨ (∃ a, a < 2 ∧ n = 57 ∧ X a = some 49 ∧ X (1 - a) = none) ∨ (∃ a, a < 2 ∧ n = 65 ∧ X a = some 49 ∧ X (1 - a) = some 57)) ∧ (∀ q, n ≤ q → q < 65 → (I q = fun _ => 0) ∧ (J q = fun _ => 0)) ∧ ∀ a, a < 2 → (X a = none → I 48 a = 0) ∧ ∀ p, X a = some p → I 48 a = 1 ∧ IMV I J a p
theorem IMGS_n {n : Nat} {I : Nat → Nat → Int32} {J : Nat → Nat → Int64} {X : Nat → Option Nat} (h : IMGS n I J X) : 49 ≤ n := by
  rcases h.1 with ⟨h, -⟩ | ⟨a, -, h, -⟩ | ⟨a, -, h, -⟩ <;> omega
theorem a2 {a : Nat} (h : a < 2) : a = 0 ∨ a = 1 := by omega
theorem IMGS_p {n : Nat} {I : Nat → Nat → Int32} {J : Nat → Nat → Int64} {X : Nat → Option Nat} (h : IMGS n I J X) {a p : Nat} (ha : a < 2) (hx : X a = some p) : (p = 49 ∨ p = 57) ∧ p + 8 ≤ n := by
  rcases h.1 with ⟨h1, h2, h3⟩ | ⟨b, hb, h1, h2, h3⟩ | ⟨b, hb, h1, h2, h3⟩
  · rcases a2 ha with rfl | rfl
    · rw [h2] at hx; cases hx
    · rw [h3] at hx; cases hx
  · by_cases e : a = b
    · rw [e, h2] at hx; cases hx; omega
    · rw [show a = 1 - b by omega, h3] at hx; cases hx
  · by_cases e : a = b
    · rw [e, h2] at hx; cases hx; omega
    · rw [show a = 1 - b by omega, h3] at hx; cases hx; omega
theorem IMGS_ag {n : Nat} {I I' : Nat → Nat → Int32} {J J' : Nat → Nat → Int64} {X : Nat → Option Nat} (h46 : I' 46 = I 46) (h48 : I' 48 = I 48) (h47 : J' 47 = J 47) (hI : ∀ q, 49 ≤ q → I' q = I q) (hJ : ∀ q, 49 ≤ q → J' q = J q) (h : IMGS n I J X) : IMGS n I' J' X := by
  have hn := IMGS_n h
  refine ⟨h.1, fun q h1 h2 => ?_, fun a ha => ⟨fun hx => ?_, fun p hx => ?_⟩⟩
  · rw [hI q (by omega), hJ q (by omega)]; exact h.2.1 q h1 h2
  · rw [h48]; exact (h.2.2 a ha).1 hx
  · obtain ⟨g1, g2⟩ := (h.2.2 a ha).2 p hx
    have hp := IMGS_p h ha hx
    exact ⟨by rw [h48]; exact g1, IMV_ag h46 h47 (fun k _ => hI _ (by omega)) (fun k _ => hJ _ (by omega)) g2⟩
def GI (n : Nat) (I : Nat → Nat → Int32) (J : Nat → Nat → Int64) (X : Nat → Option Nat) : Prop := ∃ t sl wy wi he u P c sg, LV I J t sl wy wi he u P c ∧ TOK I J t ∧ PdI I sg ∧ PW I ∧ IMGS n I J X
theorem rnX_mono {xl : Nat} {xs : Nat → Int32} {n : Nat} {I S : Nat → Nat → Int32} {J T : Nat → Nat → Int64} {X : Nat → Option Nat} {F L : Nat} {M : Mt} {vs : List Value} {r : Option Value} {P P' : (Nat → Nat → Int32) → (Nat → Nat → Int32) → (Nat → Nat → Int64) → (Nat → Nat → Int64) → Prop} (h : RnX xl xs F L M vs n I S J T X r P) (hp : ∀ I S J T, P I S J T → P' I S J T) : RnX xl xs F L M vs n I S J T X r P' := fun Q hQ => h Q (fun I' S' J' T' h1 => hQ I' S' J' T' (hp I' S' J' T' h1))
theorem rnX_S {xl : Nat} {xs : Nat → Int32} {n : Nat} {I S I' : Nat → Nat → Int32} {J T J' : Nat → Nat → Int64} {X : Nat → Option Nat} {F L : Nat} {M : Mt} {vs : List Value} {r : Option Value} {P : (Nat → Nat → Int32) → (Nat → Nat → Int32) → (Nat → Nat → Int64) → (Nat → Nat → Int64) → Prop} (h : RnS xl xs F L 0 0 M vs n I J X r n I' J' X) (hp : ∀ S T, P I' S J' T) : RnX xl xs F L M vs n I S J T X r P := fun Q hQ => h S T Q (fun S' T' => hQ I' S' J' T' (hp S' T'))
theorem rnX_G {xl : Nat} {xs : Nat → Int32} {n : Nat} {I S : Nat → Nat → Int32} {J T : Nat → Nat → Int64} {X : Nat → Option Nat} {F L : Nat} {M : Mt} {vs : List Value} {r : Option Value} {PP : (Nat → Nat → Int32) → (Nat → Nat → Int64) → Prop} {P : (Nat → Nat → Int32) → (Nat → Nat → Int32) → (Nat → Nat → Int64) → (Nat → Nat → Int64) → Prop} (h : RnG xl xs F L M vs n I J X r PP) (hp : ∀ I S J T, PP I J → P I S J T) : RnX xl xs F L M vs n I S J T X r P := fun Q hQ => h S T Q (fun I' J' S' T' h1 => hQ I' S' J' T' (hp I' S' J' T' h1))
/-- both answer alike, and what holds between the calls holds again -/
def Both (xl : Nat) (xs : Nat → Int32) (FC LC : Nat) (MC : Mt) (FM LM : Nat) (MM : Mt) (vs : List Value) (n : Nat) (I : Nat → Nat → Int32) (J : Nat → Nat → Int64) (X : Nat → Option Nat) (r : Value) : Prop := ∀ S T, RnX xl xs FC LC MC (.ref 0 :: vs) n I S J T X (some r) (fun I1 _ J1 _ => ∀ S1 T1, RnX xl xs FM LM MM (.ref 33 :: vs) n I1 S1 J1 T1 X (some r) (fun I2 _ J2 _ => GI n I2 J2 X))
theorem bothS {xl : Nat} {xs : Nat → Int32} {n : Nat} {I I1 I2 : Nat → Nat → Int32} {J J1 J2 : Nat → Nat → Int64} {X : Nat → Option Nat} {FC LC FM LM : Nat} {MC MM : Mt} {vs : List Value} {r : Value} (hc : RnS xl xs FC LC 0 0 MC (.ref 0 :: vs) n I J X (some r) n I1 J1 X) (hm : RnS xl xs FM LM 0 0 MM (.ref 33 :: vs) n I1 J1 X (some r) n I2 J2 X) (hG : GI n I2 J2 X) : Both xl xs FC LC MC FM LM MM vs n I J X r := fun _ _ => rnX_S hc (fun _ _ _ _ => rnX_S hm (fun _ _ => hG))
theorem UN_ag {I I' : Nat → Nat → Int32} {t u : Nat} (h : UN I t u) (e1 : I' 33 9 = I 33 9) (e2 : I' 1 10 = I 1 10) (e3 : I' 5 = I 5) (e4 : I' 37 = I 37) : UN I' t u := by unfold UN at *; rw [e1, e2, e3, e4]; exact h
theorem FTI_ag {I I' : Nat → Nat → Int32} {J J' : Nat → Nat → Int64} {t P : Nat} (h : FTI I J t P) (e1 : I' 33 11 = I 33 11) (e2 : I' 1 12 = I 1 12) (e3 : I' 39 = I 39) (e4 : J' 38 = J 38) (e5 : J' 6 = J 6) : FTI I' J' t P := by
  obtain ⟨h1, h2, h3, h4, h5⟩ := h
  refine ⟨h1, e1.trans h2, e2.trans h3, fun p hp => ?_, fun num hn => ?_⟩
  · unfold pvN; rw [e3]; exact h4 p hp
  · rw [tsF_ag (I := I) (J := J) (fun j _ => ⟨by rw [e3], by rw [e4]⟩), ← h5 num hn]
    unfold fitB; rw [e5]
theorem CMI_ag {I I' : Nat → Nat → Int32} {t c : Nat} (h : CMI I t c) (e1 : I' 33 14 = I 33 14) (e2 : I' 1 15 = I 1 15) (e3 : I' 7 = I 7) (e4 : I' 8 = I 8) (e5 : I' 40 = I 40) : CMI I' t c := by unfold CMI cfN at *; rw [e1, e2, e3, e4, e5]; exact h
theorem TOK_ag {I I' : Nat → Nat → Int32} {J J' : Nat → Nat → Int64} {t : Nat} (h : TOK I J t) (e1 : I' 16 = I 16) (e2 : I' 17 = I 17) (e3 : I' 18 = I 18) (e4 : I' 20 = I 20) (e5 : J' 19 = J 19) : TOK I' J' t := by unfold TOK at *; rw [e1, e2, e3, e4, e5]; exact h
theorem PdI_ag {I I' : Nat → Nat → Int32} {sg : Nat} (h : PdI I sg) (e1 : I' 33 16 = I 33 16) (e2 : I' 10 1 = I 10 1) (e3 : I' 11 = I 11) (e4 : I' 41 = I 41) : PdI I' sg := by unfold PdI at *; rw [e1, e2, e3, e4]; exact h
theorem PW_ag {I I' : Nat → Nat → Int32} (h : PW I) (e : I' 28 = I 28) : PW I' := by unfold PW at *; rw [e]; exact h
theorem GI_28 {n : Nat} {I I' : Nat → Nat → Int32} {J : Nat → Nat → Int64} {X : Nat → Option Nat} (h : GI n I J X) (e : ∀ p, p ≠ 28 → I' p = I p) (hP : PW I') : GI n I' J X := by
  obtain ⟨t, sl, wy, wi, he, u, P, c, sg, ⟨hk, hu, hft, hcm⟩, ht, hp, hpw, him⟩ := h
  have f : ∀ p, p ≠ 28 → ∀ j, I' p j = I p j := fun p hp j => congrFun (e p hp) j
  exact ⟨t, sl, wy, wi, he, u, P, c, sg, ⟨KI_mono hk e, UN_ag hu (f 33 (by decide) _) (f 1 (by decide) _) (e 5 (by decide)) (e 37 (by decide)), FTI_ag hft (f 33 (by decide) _) (f 1 (by decide) _) (e 39 (by decide)) rfl rfl, CMI_ag hcm (f 33 (by decide) _) (f 1 (by decide) _) (e 7 (by decide)) (e 8 (by decide)) (e 40 (by decide))⟩, TOK_mono ht e, PdI_ag hp (f 33 (by decide) _) (f 10 (by decide) _) (e 11 (by decide)) (e 41 (by decide)), hP, IMGS_ag (e 46 (by decide)) (e 48 (by decide)) rfl (fun q hq => e q (by omega)) (fun _ _ => rfl) him⟩
