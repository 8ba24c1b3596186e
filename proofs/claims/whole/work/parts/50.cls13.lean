theorem i_tri (a b : Int32) : a < b ∨ a = b ∨ b < a := by
  by_cases h : a.toInt = b.toInt
  · exact Or.inr (Or.inl (Int32.toInt_inj.mp h))
  · simp only [i_lt]; omega
theorem i_irr (a : Int32) : ¬ a < a := by simp only [i_lt]; omega
theorem i_trans {a b c : Int32} (h : a < b) (g : b < c) : a < c := by simp only [i_lt] at *; omega
theorem i_asym {a b : Int32} (h : a < b) (g : b < a) : False := by simp only [i_lt] at *; omega
def LsC (sc : Nat → Int32) (Z : Int64) (k : Nat) : Option Nat → Prop
  | none => ∀ v, v < k → lbit Z v = false
  | some w => w < k ∧ lbit Z w = true ∧ ∀ v, v < k → lbit Z v = true → sc w < sc v ∨ (sc w = sc v ∧ w ≤ v)
theorem lsF_char {sc : Nat → Int32} {Z : Int64} : ∀ k, LsC sc Z k (upto (lsF sc Z) k none)
  | 0 => fun v hv => absurd hv (by omega)
  | k + 1 => by
    have ih := lsF_char (sc := sc) (Z := Z) k
    show LsC sc Z (k + 1) (lsF sc Z k (upto (lsF sc Z) k none))
    generalize upto (lsF sc Z) k none = o at ih
    cases hb : lbit Z k with
    | false =>
      rw [lsF_f hb]
      cases o with
      | none =>
        intro v hv
        by_cases e : v = k
        · rw [e]; exact hb
        · exact ih v (by omega)
      | some w =>
        refine ⟨by have := ih.1; omega, ih.2.1, fun v hv hl => ?_⟩
        by_cases e : v = k
        · rw [e, hb] at hl; cases hl
        · exact ih.2.2 v (by omega) hl
    | true =>
      cases o with
      | none =>
        rw [lsF_n hb]
        refine ⟨by omega, hb, fun v hv hl => ?_⟩
        by_cases e : v = k
        · rw [e]; exact Or.inr ⟨rfl, Nat.le_refl _⟩
        · have := ih v (by omega); rw [hl] at this; cases this
      | some w =>
        rw [lsF_s hb]
        obtain ⟨h1, h2, h3⟩ := ih
        by_cases hlt : sc k < sc w
        · rw [if_pos hlt]
          refine ⟨by omega, hb, fun v hv hl => ?_⟩
          by_cases e : v = k
          · rw [e]; exact Or.inr ⟨rfl, Nat.le_refl _⟩
          · rcases h3 v (by omega) hl with g | ⟨g, -⟩
            · exact Or.inl (i_trans hlt g)
            · rw [← g]; exact Or.inl hlt
        · rw [if_neg hlt]
          refine ⟨by omega, h2, fun v hv hl => ?_⟩
          by_cases e : v = k
          · rw [e]
            rcases i_tri (sc w) (sc k) with g | g | g
            · exact Or.inl g
            · exact Or.inr ⟨g, by omega⟩
            · exact absurd g hlt
          · exact h3 v (by omega) hl
theorem LsC_eq {sc : Nat → Int32} {Z : Int64} {k : Nat} {o p : Option Nat} (h : LsC sc Z k o) (g : LsC sc Z k p) : o = p := by
  cases o with
  | none =>
    cases p with
    | none => rfl
    | some w => have := h w g.1; rw [g.2.1] at this; cases this
  | some v =>
    cases p with
    | none => have := g v h.1; rw [h.2.1] at this; cases this
    | some w =>
      rcases h.2.2 w g.1 g.2.1 with a | ⟨a, a2⟩
      · rcases g.2.2 v h.1 h.2.1 with b | ⟨b, -⟩
        · exact (i_asym a b).elim
        · rw [b] at a; exact absurd a (i_irr _)
      · rcases g.2.2 v h.1 h.2.1 with b | ⟨b, b2⟩
        · rw [a] at b; exact absurd b (i_irr _)
        · rw [show v = w by omega]
theorem lsO_c {sc : Nat → Int32} {Z : Int64} : LsC sc Z 64 (lsO sc Z) := lsF_char 64
theorem ba_eq {a b : Nat} : a &&& b = b ↔ ∀ i, b.testBit i = true → a.testBit i = true := by
  constructor
  · intro h i hi
    have := congrArg (fun x => x.testBit i) h
    simp only [Nat.testBit_and, hi, Bool.and_true] at this
    exact this
  · intro h
    apply Nat.eq_of_testBit_eq
    intro i
    rw [Nat.testBit_and]
    cases hb : b.testBit i with
    | false => rw [Bool.and_false]
    | true => rw [h i hb]; rfl
theorem ba_0 {a b : Nat} : a &&& b = 0 ↔ ∀ i, b.testBit i = true → a.testBit i = false := by
  constructor
  · intro h i hi
    have := congrArg (fun x => x.testBit i) h
    simp only [Nat.testBit_and, hi, Bool.and_true, Nat.zero_testBit] at this
    exact this
  · intro h
    apply Nat.eq_of_testBit_eq
    intro i
    rw [Nat.testBit_and, Nat.zero_testBit]
    cases hb : b.testBit i with
    | false => rw [Bool.and_false]
    | true => rw [h i hb]; rfl
def sdN (t num : Nat) : Nat := tmask 1 t num t ||| tmask 2 t num t
def soN (t num : Nat) : Nat := tmask 1 t num t
def nmO (t sd so : Nat) : Nat := 2 * wgt t sd t - wgt t so t
def nmC (t sd so : Nat) : Bool := !(so &&& sd == so) || (Nat.blt (nmO t sd so) (3 ^ t) && (soN t (nmO t sd so) == so && (sdN t (nmO t sd so) == sd && Nat.ble (wgt t so t) (2 * wgt t sd t))))
theorem nmC_t : ∀ t, t < 7 → ∀ sd, sd < 2 ^ t → ∀ so, so < 2 ^ t → nmC t sd so = true := by decide +kernel
theorem nmO_A {t sd so : Nat} (h6 : t ≤ 6) (h1 : sd < 2 ^ t) (h2 : so < 2 ^ t) (h3 : so &&& sd = so) : nmO t sd so < 3 ^ t ∧ soN t (nmO t sd so) = so ∧ sdN t (nmO t sd so) = sd ∧ wgt t so t ≤ 2 * wgt t sd t := by
  have h := nmC_t t (by omega) sd h1 so h2
  unfold nmC at h
  simp only [h3, beq_self_eq_true, Bool.not_true, Bool.false_or, Bool.and_eq_true, beq_iff_eq] at h
  obtain ⟨a, b, c, d⟩ := h
  exact ⟨Nat.le_of_ble_eq_true a, b, c, Nat.le_of_ble_eq_true d⟩
theorem nmO_B : ∀ t, t < 7 → ∀ num, num < 3 ^ t → nmO t (sdN t num) (soN t num) = num := by decide +kernel
theorem sdN_lt {t num : Nat} : sdN t num < 2 ^ t := Nat.or_lt_two_pow (tmask_lt2 1 t num) (tmask_lt2 2 t num)
theorem soN_lt {t num : Nat} : soN t num < 2 ^ t := tmask_lt2 1 t num
theorem wd_sd {t num : Nat} (h6 : t ≤ 6) : wd t num = pop 6 (sdN t num) := (pop_wd6 h6).symm
def wZ (J : Nat → Nat → Int64) (t sl sd aim : Nat) : Int64 := mk64 (fun w => lbit (J 33 8) w && (decide ((w ^^^ aim) &&& sd = 0) && decide (pop 6 (w ^^^ aim) ≤ sl))) (2 ^ t)
def tN (J : Nat → Nat → Int64) (t sl : Nat) (f : Nat → Int32) (num a : Nat) : Option Nat := lsO f (mk64 (ktT J t sl num a) (2 ^ t))
theorem b63 {i : Nat} (h : i < 6) : (63 : Nat).testBit i = true := by
  have : ∀ i, i < 6 → (63 : Nat).testBit i = true := by decide
  exact this i h
theorem wZ_eq {J : Nat → Nat → Int64} {t sl num a : Nat} (h6 : t ≤ 6) (ha : a < 64) : wZ J t sl (sdN t num) ((a &&& (63 ^^^ sdN t num)) ||| soN t num) = mk64 (ktT J t sl num a) (2 ^ t) := by
  have h64 := p2_le h6
  unfold wZ
  refine mk64_congr (fun w hw => ?_)
  unfold ktT ktF
  have key : ((w ^^^ ((a &&& (63 ^^^ sdN t num)) ||| soN t num)) &&& sdN t num = 0) ↔ (w &&& tmask 1 t num t = tmask 1 t num t ∧ w &&& tmask 2 t num t = 0) := by
    rw [ba_0, ba_eq, ba_0]
    have hx : ∀ i, i < 6 → (w ^^^ ((a &&& (63 ^^^ sdN t num)) ||| soN t num)).testBit i = (w.testBit i ^^ ((a.testBit i && !((tmask 1 t num t).testBit i || (tmask 2 t num t).testBit i)) || (tmask 1 t num t).testBit i)) := by
      intro i hi
      unfold sdN soN
      rw [Nat.testBit_xor, Nat.testBit_or, Nat.testBit_and, Nat.testBit_xor, Nat.testBit_or, b63 hi, Bool.true_xor]
    have h1i : ∀ i, (tmask 1 t num t).testBit i = true → i < 6 := fun i h => by
      rw [tm_bit, Bool.and_eq_true, decide_eq_true_eq] at h; omega
    have h2i : ∀ i, (tmask 2 t num t).testBit i = true → i < 6 := fun i h => by
      rw [tm_bit, Bool.and_eq_true, decide_eq_true_eq] at h; omega
    have hsd : ∀ i, (sdN t num).testBit i = ((tmask 1 t num t).testBit i || (tmask 2 t num t).testBit i) := fun i => by unfold sdN; rw [Nat.testBit_or]
    constructor
    · intro h
      constructor
      · intro i hi
        have := h i (by rw [hsd, hi, Bool.true_or])
        rw [hx i (h1i i hi), hi] at this
        cases hw : w.testBit i with
        | true => rfl
        | false => rw [hw] at this; simp at this
      · intro i hi
        have := h i (by rw [hsd, hi, Bool.or_true])
        have h1 : (tmask 1 t num t).testBit i = false := by
          cases hc : (tmask 1 t num t).testBit i with
          | false => rfl
          | true => rw [tm_disj hc] at hi; cases hi
        rw [hx i (h2i i hi), hi, h1] at this
        cases hw : w.testBit i with
        | false => rfl
        | true => rw [hw] at this; simp at this
    · intro ⟨g1, g2⟩ i hi
      rw [hsd, Bool.or_eq_true] at hi
      rcases hi with hi | hi
      · rw [hx i (h1i i hi), hi, g1 i hi]; simp
      · have h1 : (tmask 1 t num t).testBit i = false := by
          cases hc : (tmask 1 t num t).testBit i with
          | false => rfl
          | true => rw [tm_disj hc] at hi; cases hi
        rw [hx i (h2i i hi), hi, h1, g2 i hi]; simp
  by_cases hc : w &&& tmask 1 t num t = tmask 1 t num t ∧ w &&& tmask 2 t num t = 0
  · rw [decide_eq_true (key.mpr hc), decide_eq_true hc.1, decide_eq_true hc.2, Bool.true_and, Bool.true_and, Bool.true_and]
    rw [show w ^^^ ((a &&& (63 ^^^ sdN t num)) ||| soN t num) = (w ^^^ a) &&& (63 ^^^ (tmask 1 t num t ||| tmask 2 t num t)) from aim_eq (by omega) ha h6 hc.1 hc.2]
  · rw [decide_eq_false (fun h => hc (key.mp h)), Bool.false_and, Bool.and_false]
    by_cases g : w &&& tmask 1 t num t = tmask 1 t num t
    · rw [decide_eq_false (show ¬ w &&& tmask 2 t num t = 0 from fun h => hc ⟨g, h⟩)]; simp
    · rw [decide_eq_false g]; simp
theorem x_msk {w a M : Nat} : (w ^^^ a) &&& M = (w ^^^ (a &&& M)) &&& M := by
  apply Nat.eq_of_testBit_eq
  intro i
  simp only [Nat.testBit_and, Nat.testBit_xor]
  cases w.testBit i <;> cases a.testBit i <;> cases M.testBit i <;> rfl
theorem tN_rest {J : Nat → Nat → Int64} {t sl num a : Nat} {f : Nat → Int32} : tN J t sl f num a = tN J t sl f num (a &&& (63 ^^^ sdN t num)) := by
  unfold tN
  congr 1
  refine mk64_congr (fun w _ => ?_)
  unfold ktT ktF
  rw [x_msk (a := a)]
  rfl
theorem bz_D : ∀ sd, sd < 64 → ∀ aim, aim < 64 → ((aim &&& (63 ^^^ sd)) &&& (63 ^^^ sd)) ||| (aim &&& sd) = aim ∧ aim &&& sd &&& sd = aim &&& sd ∧ (aim &&& (63 ^^^ sd)) &&& sd = 0 ∧ (aim &&& (63 ^^^ sd)) ||| (aim &&& sd) = aim := by decide +kernel
theorem bz_E : ∀ sd, sd < 64 → ∀ so, so < 64 → so &&& sd = so → ∀ r, r < 64 → r &&& sd = 0 → (so ||| r) &&& sd = so ∧ (so ||| r) &&& (63 ^^^ sd) = r := by
  intro sd hsd so hso h1 r hr h2
  constructor
  · apply Nat.eq_of_testBit_eq
    intro i
    have a1 := congrArg (fun x => x.testBit i) h1
    have a2 := congrArg (fun x => x.testBit i) h2
    simp only [Nat.testBit_and, Nat.zero_testBit] at a1 a2
    simp only [Nat.testBit_and, Nat.testBit_or]
    cases hx : so.testBit i <;> cases hy : sd.testBit i <;> cases hz : r.testBit i <;> rw [hx, hy] at a1 <;> rw [hy, hz] at a2 <;> first | rfl | (exact absurd a1 (by decide)) | (exact absurd a2 (by decide))
  · apply Nat.eq_of_testBit_eq
    intro i
    have a1 := congrArg (fun x => x.testBit i) h1
    have a2 := congrArg (fun x => x.testBit i) h2
    simp only [Nat.testBit_and, Nat.zero_testBit] at a1 a2
    simp only [Nat.testBit_and, Nat.testBit_or, Nat.testBit_xor]
    by_cases hi : i < 6
    · rw [b63 hi]
      cases hx : so.testBit i <;> cases hy : sd.testBit i <;> cases hz : r.testBit i <;> rw [hx, hy] at a1 <;> rw [hy, hz] at a2 <;> first | rfl | (exact absurd a1 (by decide)) | (exact absurd a2 (by decide))
    · have g : ∀ x, x < 64 → x.testBit i = false := fun x hx => Nat.testBit_lt_two_pow (Nat.lt_of_lt_of_le (show x < 2 ^ 6 from hx) (Nat.pow_le_pow_right (by decide) (by omega)))
      rw [g so hso, g r hr]; rfl
-- the best term of those looked at
def Bq (J : Nat → Nat → Int64) (t sl : Nat) (f : Nat → Int32) (P : Nat → Prop) (a : Nat) (r : Int32) (x : Nat) : Prop :=
  (r = -6 ∧ ∀ num, num < 3 ^ t → P num → tN J t sl f num a = none) ∨
  ∃ u, u < 3 ^ t ∧ P u ∧ tN J t sl f u a = some x ∧ r = nI (rkN t u) ∧ ∀ num y, num < 3 ^ t → P num → tN J t sl f num a = some y → num = u ∨ f y < f x ∨ (f y = f x ∧ rkN t u < rkN t num)
def isB (v r w q : Int32) : Bool := decide (q < 0) || (decide (w < v) || (decide (v = w) && decide (r < q)))
theorem rkN_b {t u : Nat} (h6 : t ≤ 6) (hu : u < 3 ^ t) : rkN t u < 2 ^ 31 := by
  have := wd_le (t := t) (num := u) h6
  have := p3_le h6
  unfold rkN
  omega
theorem rkN_inj {t u v : Nat} (h6 : t ≤ 6) (hu : u < 3 ^ t) (hv : v < 3 ^ t) (h : rkN t u = rkN t v) : u = v := by
  have := p3_le h6
  unfold rkN at h
  omega
theorem rkN_lt {t u v : Nat} (h6 : t ≤ 6) (hu : u < 3 ^ t) (hv : v < 3 ^ t) : rkN t u < rkN t v ↔ (wd t u < wd t v ∨ (wd t u = wd t v ∧ u < v)) := by
  have := p3_le h6
  unfold rkN
  omega
theorem isB_t {v r w q : Int32} : isB v r w q = true ↔ (q < 0 ∨ w < v ∨ (v = w ∧ r < q)) := by
  unfold isB; simp
theorem Bq_congr {J : Nat → Nat → Int64} {t sl a x : Nat} {f : Nat → Int32} {P R : Nat → Prop} {r : Int32} (hR : ∀ num, num < 3 ^ t → (R num ↔ P num)) (h : Bq J t sl f P a r x) : Bq J t sl f R a r x := by
  rcases h with ⟨h1, h2⟩ | ⟨u, h1, h2, h3, h4, h5⟩
  · exact Or.inl ⟨h1, fun num hn hr => h2 num hn ((hR num hn).mp hr)⟩
  · exact Or.inr ⟨u, h1, (hR u h1).mpr h2, h3, h4, fun num y hn hr => h5 num y hn ((hR num hn).mp hr)⟩
theorem Bq_rest {J : Nat → Nat → Int64} {t sl a x sd : Nat} {f : Nat → Int32} {P : Nat → Prop} {r : Int32} (hP : ∀ num, P num → sdN t num = sd) (h : Bq J t sl f P (a &&& (63 ^^^ sd)) r x) : Bq J t sl f P a r x := by
  have e : ∀ num, P num → tN J t sl f num a = tN J t sl f num (a &&& (63 ^^^ sd)) := fun num hp => by rw [tN_rest (a := a), hP num hp]
  rcases h with ⟨h1, h2⟩ | ⟨u, h1, h2, h3, h4, h5⟩
  · exact Or.inl ⟨h1, fun num hn hr => by rw [e num hr]; exact h2 num hn hr⟩
  · exact Or.inr ⟨u, h1, h2, by rw [e u h2]; exact h3, h4, fun num y hn hr hy => h5 num y hn hr (by rw [← e num hr]; exact hy)⟩
theorem n6_lt : (-6 : Int32) < 0 := by decide
theorem Bq_keep {J : Nat → Nat → Int64} {t sl a x x' : Nat} {f : Nat → Int32} {P P' R : Nat → Prop} {r r' : Int32} (h6 : t ≤ 6) (hR : ∀ num, num < 3 ^ t → (R num ↔ P num ∨ P' num)) (h : Bq J t sl f P a r x) (h' : Bq J t sl f P' a r' x') (hc : r' < 0 ∨ isB (f x') r' (f x) r = false) : Bq J t sl f R a r x := by
  rcases h' with ⟨k1, k2⟩ | ⟨u', k1, k2, k3, k4, k5⟩
  · rcases h with ⟨h1, h2⟩ | ⟨u, h1, h2, h3, h4, h5⟩
    · exact Or.inl ⟨h1, fun num hn hr => ((hR num hn).mp hr).elim (h2 num hn) (k2 num hn)⟩
    · refine Or.inr ⟨u, h1, (hR u h1).mpr (Or.inl h2), h3, h4, fun num y hn hr hy => ?_⟩
      rcases (hR num hn).mp hr with g | g
      · exact h5 num y hn g hy
      · have := k2 num hn g; rw [hy] at this; cases this
  · have hb : isB (f x') r' (f x) r = false := hc.resolve_left (fun e => by rw [k4] at e; exact nI_pos (rkN_b h6 k1) e)
    have hb : ¬ (r < 0 ∨ f x < f x' ∨ (f x' = f x ∧ r' < r)) := fun e => by rw [isB_t.mpr e] at hb; cases hb
    rcases h with ⟨h1, h2⟩ | ⟨u, h1, h2, h3, h4, h5⟩
    · exact absurd (Or.inl (h1 ▸ n6_lt)) hb
    · refine Or.inr ⟨u, h1, (hR u h1).mpr (Or.inl h2), h3, h4, fun num y hn hr hy => ?_⟩
      rcases (hR num hn).mp hr with g | g
      · exact h5 num y hn g hy
      · have hu : f x' < f x ∨ (f x' = f x ∧ rkN t u ≤ rkN t u') := by
          rcases i_tri (f x') (f x) with e | e | e
          · exact Or.inl e
          · refine Or.inr ⟨e, ?_⟩
            by_cases c : rkN t u ≤ rkN t u'
            · exact c
            · exact absurd (Or.inr (Or.inr ⟨e, by rw [k4, h4]; exact (nI_ltI (rkN_b h6 k1) (rkN_b h6 h1)).mpr (by omega)⟩)) hb
          · exact absurd (Or.inr (Or.inl e)) hb
        rcases k5 num y hn g hy with e | e | ⟨e, e2⟩
        · subst e
          rw [k3] at hy
          cases hy
          rcases hu with c | ⟨c, c2⟩
          · exact Or.inr (Or.inl c)
          · by_cases d : rkN t u = rkN t num
            · exact Or.inl (rkN_inj h6 h1 hn d).symm
            · exact Or.inr (Or.inr ⟨c, by omega⟩)
        · rcases hu with c | ⟨c, c2⟩
          · exact Or.inr (Or.inl (i_trans e c))
          · exact Or.inr (Or.inl (c ▸ e))
        · rcases hu with c | ⟨c, c2⟩
          · exact Or.inr (Or.inl (e ▸ c))
          · exact Or.inr (Or.inr ⟨e.trans c, by omega⟩)
theorem Bq_take {J : Nat → Nat → Int64} {t sl a x x' : Nat} {f : Nat → Int32} {P P' R : Nat → Prop} {r r' : Int32} (h6 : t ≤ 6) (hR : ∀ num, num < 3 ^ t → (R num ↔ P num ∨ P' num)) (h : Bq J t sl f P a r x) (h' : Bq J t sl f P' a r' x') (hc : ¬ r' < 0) (hb : isB (f x') r' (f x) r = true) : Bq J t sl f R a r' x' := by
  have hb := isB_t.mp hb
  rcases h' with ⟨k1, k2⟩ | ⟨u', k1, k2, k3, k4, k5⟩
  · exact absurd (k1 ▸ n6_lt) hc
  · refine Or.inr ⟨u', k1, (hR u' k1).mpr (Or.inr k2), k3, k4, fun num y hn hr hy => ?_⟩
    rcases (hR num hn).mp hr with g | g
    · rcases h with ⟨h1, h2⟩ | ⟨u, h1, h2, h3, h4, h5⟩
      · have := h2 num hn g; rw [hy] at this; cases this
      · have hu : f x < f x' ∨ (f x = f x' ∧ rkN t u' < rkN t u) := by
          rcases hb with e | e | ⟨e, e2⟩
          · rw [h4] at e; exact absurd e (nI_pos (rkN_b h6 h1))
          · exact Or.inl e
          · rw [k4, h4] at e2; exact Or.inr ⟨e.symm, (nI_ltI (rkN_b h6 k1) (rkN_b h6 h1)).mp e2⟩
        rcases h5 num y hn g hy with e | e | ⟨e, e2⟩
        · subst e
          rw [h3] at hy
          cases hy
          rcases hu with c | ⟨c, c2⟩
          · exact Or.inr (Or.inl c)
          · exact Or.inr (Or.inr ⟨c, c2⟩)
        · rcases hu with c | ⟨c, c2⟩
          · exact Or.inr (Or.inl (i_trans e c))
          · exact Or.inr (Or.inl (c ▸ e))
        · rcases hu with c | ⟨c, c2⟩
          · exact Or.inr (Or.inl (e ▸ c))
          · exact Or.inr (Or.inr ⟨e.trans c, by omega⟩)
    · exact k5 num y hn g hy
theorem Bq_one {J : Nat → Nat → Int64} {t sl a y num0 : Nat} {f : Nat → Int32} (hn : num0 < 3 ^ t) (h : tN J t sl f num0 a = some y) : Bq J t sl f (fun num => num = num0) a (nI (rkN t num0)) y :=
  Or.inr ⟨num0, hn, rfl, h, rfl, fun num _ _ e _ => Or.inl e⟩
theorem Bq_void {J : Nat → Nat → Int64} {t sl a y num0 : Nat} {f : Nat → Int32} (h : tN J t sl f num0 a = none) : Bq J t sl f (fun num => num = num0) a (-6) y :=
  Or.inl ⟨rfl, fun num _ e => by rw [e]; exact h⟩
-- what the reference finds
def PBo (t : Nat) (own : Nat → Option Int32) (k : Nat) : Option (Nat × Int32) → Prop
  | none => ∀ num, num < k → own num = none
  | some p => p.1 < k ∧ own p.1 = some p.2 ∧ ∀ num o, num < k → own num = some o → num = p.1 ∨ o < p.2 ∨ (o = p.2 ∧ (wd t p.1 < wd t num ∨ (wd t p.1 = wd t num ∧ p.1 < num)))
theorem btW_t {t k u : Nat} {o b : Int32} : btW t k o u b = true ↔ (b < o ∨ (o = b ∧ wd t k < wd t u)) := by unfold btW; simp
theorem pickB_n {better : Nat → Int32 → Nat → Int32 → Bool} {own : Nat → Option Int32} {k : Nat} {s : Option (Nat × Int32)} (h : own k = none) : pickB better own k s = s := by unfold pickB; rw [h]
theorem pickB_s0 {better : Nat → Int32 → Nat → Int32 → Bool} {own : Nat → Option Int32} {k : Nat} {o : Int32} (h : own k = some o) : pickB better own k none = some (k, o) := by unfold pickB; rw [h]
theorem pickB_s1 {better : Nat → Int32 → Nat → Int32 → Bool} {own : Nat → Option Int32} {k u : Nat} {o b : Int32} (h : own k = some o) : pickB better own k (some (u, b)) = if better k o u b then some (k, o) else some (u, b) := by unfold pickB; rw [h]
theorem pickB_opt {t : Nat} {own : Nat → Option Int32} : ∀ k, PBo t own k (upto (pickB (btW t) own) k none)
  | 0 => fun num h => absurd h (by omega)
  | k + 1 => by
    have ih := pickB_opt (t := t) (own := own) k
    show PBo t own (k + 1) (pickB (btW t) own k (upto (pickB (btW t) own) k none))
    generalize upto (pickB (btW t) own) k none = s at ih
    cases ho : own k with
    | none =>
      rw [pickB_n ho]
      cases s with
      | none =>
        intro num hn
        by_cases e : num = k
        · rw [e]; exact ho
        · exact ih num (by omega)
      | some p =>
        refine ⟨by have := ih.1; omega, ih.2.1, fun num o hn h => ?_⟩
        by_cases e : num = k
        · rw [e, ho] at h; cases h
        · exact ih.2.2 num o (by omega) h
    | some o =>
      cases s with
      | none =>
        rw [pickB_s0 ho]
        refine ⟨by show k < k + 1; omega, ho, fun num o2 hn h => ?_⟩
        by_cases e : num = k
        · exact Or.inl e
        · have := ih num (by omega); rw [h] at this; cases this
      | some p =>
        obtain ⟨u, b⟩ := p
        rw [pickB_s1 ho]
        obtain ⟨h1, h2, h3⟩ := ih
        have h1 : u < k := h1
        by_cases hb : btW t k o u b = true
        · rw [if_pos hb]
          have hb := btW_t.mp hb
          refine ⟨by show k < k + 1; omega, ho, fun num o2 hn h => ?_⟩
          show num = k ∨ o2 < o ∨ (o2 = o ∧ (wd t k < wd t num ∨ (wd t k = wd t num ∧ k < num)))
          by_cases e : num = k
          · exact Or.inl e
          · refine Or.inr ?_
            rcases h3 num o2 (by omega) h with g | g | ⟨g, g2⟩
            · have g : num = u := g
              have h2 : own u = some b := h2
              rw [g, h2] at h
              cases h
              rcases hb with c | ⟨c, c2⟩
              · exact Or.inl c
              · exact Or.inr ⟨c.symm, Or.inl (by rw [g]; exact c2)⟩
            · have g : o2 < b := g
              rcases hb with c | ⟨c, c2⟩
              · exact Or.inl (i_trans g c)
              · exact Or.inl (c ▸ g)
            · have g : o2 = b := g
              have g2 : wd t u < wd t num ∨ (wd t u = wd t num ∧ u < num) := g2
              rcases hb with c | ⟨c, c2⟩
              · exact Or.inl (g ▸ c)
              · exact Or.inr ⟨g.trans c.symm, by omega⟩
        · rw [if_neg hb]
          have hb : ¬ (b < o ∨ (o = b ∧ wd t k < wd t u)) := fun h => hb (btW_t.mpr h)
          refine ⟨by show u < k + 1; omega, h2, fun num o2 hn h => ?_⟩
          by_cases e : num = k
          · show num = u ∨ o2 < b ∨ (o2 = b ∧ (wd t u < wd t num ∨ (wd t u = wd t num ∧ u < num)))
            rw [e, ho] at h
            cases h
            rcases i_tri o b with c | c | c
            · exact Or.inr (Or.inl c)
            · refine Or.inr (Or.inr ⟨c, ?_⟩)
              have : ¬ wd t k < wd t u := fun g => hb (Or.inr ⟨c, g⟩)
              rw [e]; omega
            · exact absurd (Or.inl c) hb
          · exact h3 num o2 (by omega) h
theorem woF_tN1 {J : Nat → Nat → Int64} {t sl a num : Nat} {f : Nat → Int32} (h64 : 2 ^ t ≤ 64) (hf : ∀ w, w < 2 ^ t → f w < 1000000) : ∀ k, k ≤ 2 ^ t → upto (fun w x => if ktT J t sl num a w && decide (f w < x) then f w else x) k 1000000 = (match upto (lsF f (mk64 (ktT J t sl num a) (2 ^ t))) k none with | none => 1000000 | some w => f w)
  | 0, _ => rfl
  | k + 1, hk => by
    have ih := woF_tN1 (J := J) (sl := sl) (a := a) (num := num) h64 hf k (by omega)
    have hlt := lsF_lt (sc := f) (Z := mk64 (ktT J t sl num a) (2 ^ t)) k
    have hbit : lbit (mk64 (ktT J t sl num a) (2 ^ t)) k = ktT J t sl num a k := by rw [mk64_bit _ _ h64, decide_eq_true (show k < 2 ^ t by omega), Bool.true_and]
    show (if ktT J t sl num a k && decide (f k < upto (fun w x => if ktT J t sl num a w && decide (f w < x) then f w else x) k 1000000) then f k else upto (fun w x => if ktT J t sl num a w && decide (f w < x) then f w else x) k 1000000) = (match lsF f (mk64 (ktT J t sl num a) (2 ^ t)) k (upto (lsF f (mk64 (ktT J t sl num a) (2 ^ t))) k none) with | none => 1000000 | some w => f w)
    rw [ih]
    generalize upto (lsF f (mk64 (ktT J t sl num a) (2 ^ t))) k none = o at hlt
    cases hkt : ktT J t sl num a k with
    | false => rw [lsF_f (by rw [hbit, hkt])]; cases o <;> simp
    | true =>
      cases o with
      | none =>
        rw [lsF_n (by rw [hbit, hkt])]
        show (if true && decide (f k < 1000000) then f k else 1000000) = f k
        rw [decide_eq_true (hf k (by omega))]; rfl
      | some w =>
        rw [lsF_s (by rw [hbit, hkt])]
        show (if true && decide (f k < f w) then f k else f w) = _
        by_cases c : f k < f w
        · rw [decide_eq_true c, if_pos c]; rfl
        · rw [decide_eq_false c, if_neg c]; rfl
theorem tN_2t {J : Nat → Nat → Int64} {t sl a num : Nat} {f : Nat → Int32} (h64 : 2 ^ t ≤ 64) : tN J t sl f num a = upto (lsF f (mk64 (ktT J t sl num a) (2 ^ t))) (2 ^ t) none := lsF_skip2 h64 (fun i h1 _ => mk64_hi h64 h1)
theorem woF_tN {J : Nat → Nat → Int64} {t sl a num : Nat} {f : Nat → Int32} (h64 : 2 ^ t ≤ 64) (hf : ∀ w, w < 2 ^ t → f w < 1000000) : woF J t sl a f num = (match tN J t sl f num a with | none => 1000000 | some w => f w) := by
  rw [tN_2t h64]; exact woF_tN1 h64 hf (2 ^ t) (Nat.le_refl _)
theorem tN_char {J : Nat → Nat → Int64} {t sl a num w : Nat} {f : Nat → Int32} (h64 : 2 ^ t ≤ 64) (h : tN J t sl f num a = some w) : w < 2 ^ t ∧ ktT J t sl num a w = true ∧ ∀ v, v < 2 ^ t → ktT J t sl num a v = true → f w < f v ∨ (f w = f v ∧ w ≤ v) := by
  have hc := lsF_char (sc := f) (Z := mk64 (ktT J t sl num a) (2 ^ t)) (2 ^ t)
  rw [tN_2t h64] at h
  rw [h] at hc
  have hb : ∀ v, v < 2 ^ t → lbit (mk64 (ktT J t sl num a) (2 ^ t)) v = ktT J t sl num a v := fun v hv => by rw [mk64_bit _ _ h64, decide_eq_true hv, Bool.true_and]
  obtain ⟨h1, h2, h3⟩ := hc
  exact ⟨h1, by rw [← hb w h1]; exact h2, fun v hv hk => h3 v hv (by rw [hb v hv]; exact hk)⟩
def FiC (J : Nat → Nat → Int64) (t sl a u : Nat) (b : Int32) (f : Nat → Int32) (N : Nat) : Option Nat → Prop
  | none => ∀ w, w < N → ktT J t sl u a w = true → ¬ f w = b
  | some v => v < N ∧ ktT J t sl u a v = true ∧ f v = b ∧ ∀ w, w < v → ktT J t sl u a w = true → ¬ f w = b
theorem fiF_char {J : Nat → Nat → Int64} {t sl a u : Nat} {b : Int32} {f : Nat → Int32} : ∀ N, FiC J t sl a u b f N (upto (fiF J t sl a u b f) N none)
  | 0 => fun w hw => absurd hw (by omega)
  | N + 1 => by
    have ih := fiF_char (J := J) (t := t) (sl := sl) (a := a) (u := u) (b := b) (f := f) N
    show FiC J t sl a u b f (N + 1) (fiF J t sl a u b f N (upto (fiF J t sl a u b f) N none))
    generalize upto (fiF J t sl a u b f) N none = o at ih
    cases o with
    | none =>
      unfold fiF
      by_cases c : (ktT J t sl u a N && decide (f N = b)) = true
      · simp only [c, if_true]
        rw [Bool.and_eq_true, decide_eq_true_eq] at c
        exact ⟨by omega, c.1, c.2, fun w hw => ih w hw⟩
      · simp only [c]
        intro w hw hk
        by_cases e : w = N
        · intro g
          rw [e] at hk g
          exact c (by rw [hk, g]; simp)
        · exact ih w (by omega) hk
    | some v =>
      show FiC J t sl a u b f (N + 1) (some v)
      exact ⟨by have := ih.1; omega, ih.2⟩
theorem fi_tN {J : Nat → Nat → Int64} {t sl a u x : Nat} {f : Nat → Int32} (h64 : 2 ^ t ≤ 64) (h : tN J t sl f u a = some x) : upto (fiF J t sl a u (f x) f) (2 ^ t) none = some x := by
  obtain ⟨h1, h2, h3⟩ := tN_char h64 h
  have hc := fiF_char (J := J) (t := t) (sl := sl) (a := a) (u := u) (b := f x) (f := f) (2 ^ t)
  cases ho : upto (fiF J t sl a u (f x) f) (2 ^ t) none with
  | none => rw [ho] at hc; exact absurd rfl (hc x h1 h2)
  | some v =>
    rw [ho] at hc
    obtain ⟨g1, g2, g3, g4⟩ := hc
    rcases h3 v g1 g2 with c | ⟨c, c2⟩
    · rw [g3] at c; exact absurd c (i_irr _)
    · by_cases e : x < v
      · exact absurd rfl (g4 x e h2)
      · rw [show v = x by omega]
def rkO (t : Nat) : Option (Nat × Int32) → Int32
  | none => -6
  | some p => nI (rkN t p.1)
theorem own_n {J : Nat → Nat → Int64} {t sl a m num : Nat} {f : Nat → Int32} (h6 : t ≤ 6) (hm : m < 1000) (hf : ∀ w, w < 2 ^ t → f w < 1000000) (hw : wd t num ≤ m) (h : tN J t sl f num a = none) : ownB J t sl a f (nI m) num = none := by
  unfold ownB
  rw [woF_tN (p2_le h6) hf, h]
  simp only [i_irr, if_false]
  split <;> rfl
theorem own_s {J : Nat → Nat → Int64} {t sl a m num x : Nat} {f : Nat → Int32} (h6 : t ≤ 6) (hm : m < 1000) (hf : ∀ w, w < 2 ^ t → f w < 1000000) (hw : wd t num ≤ m) (h : tN J t sl f num a = some x) : ownB J t sl a f (nI m) num = some (f x) := by
  have hx := hf x (tN_char (p2_le h6) h).1
  unfold ownB
  rw [woF_tN (p2_le h6) hf, h, if_pos ((nI_leI (by have := wd_le (t := t) (num := num) h6; omega) (by omega)).mpr hw)]
  exact if_pos hx
theorem own_r {J : Nat → Nat → Int64} {t sl a m num : Nat} {o : Int32} {f : Nat → Int32} (h6 : t ≤ 6) (hm : m < 1000) (hf : ∀ w, w < 2 ^ t → f w < 1000000) (h : ownB J t sl a f (nI m) num = some o) : wd t num ≤ m ∧ ∃ x, tN J t sl f num a = some x ∧ o = f x := by
  have hwl := wd_le (t := t) (num := num) h6
  by_cases hw : wd t num ≤ m
  · refine ⟨hw, ?_⟩
    cases hx : tN J t sl f num a with
    | none => rw [own_n h6 hm hf hw hx] at h; cases h
    | some x => rw [own_s h6 hm hf hw hx] at h; cases h; exact ⟨x, rfl, rfl⟩
  · unfold ownB at h
    rw [if_neg (fun e => hw ((nI_leI (by omega) (by omega)).mp e))] at h
    cases h
theorem Bq_bs {J : Nat → Nat → Int64} {t sl a m x : Nat} {f : Nat → Int32} {r : Int32} (h6 : t ≤ 6) (hm : m < 1000) (hf : ∀ w, w < 2 ^ t → f w < 1000000) (h : Bq J t sl f (fun num => wd t num ≤ m) a r x) (h0 : r < 0 → x = a) : r = rkO t (bsP J t sl (nI m) f a) ∧ x = toF J t sl (nI m) f a ∧ f x = bsV J t sl (nI m) f a := by
  have hp := pickB_opt (t := t) (own := ownB J t sl a f (nI m)) (3 ^ t)
  have hp : PBo t (ownB J t sl a f (nI m)) (3 ^ t) (bsP J t sl (nI m) f a) := hp
  unfold toF bsV
  cases hb : bsP J t sl (nI m) f a with
  | none =>
    rw [hb] at hp
    rcases h with ⟨h1, h2⟩ | ⟨u, h1, h2, h3, h4, h5⟩
    · have hx := h0 (h1 ▸ n6_lt)
      exact ⟨h1, hx, by rw [hx]⟩
    · have := hp u h1
      rw [own_s h6 hm hf h2 h3] at this
      cases this
  | some p =>
    obtain ⟨v, b⟩ := p
    rw [hb] at hp
    obtain ⟨k1, k2, k3⟩ := hp
    have k2 : ownB J t sl a f (nI m) v = some b := k2
    obtain ⟨g1, y, g2, g3⟩ := own_r h6 hm hf k2
    rcases h with ⟨h1, h2⟩ | ⟨u, h1, h2, h3, h4, h5⟩
    · have := h2 v k1 g1; rw [g2] at this; cases this
    · have huv : u = v := by
        rcases k3 u (f x) h1 (own_s h6 hm hf h2 h3) with e | e | ⟨e, e2⟩
        · exact e
        · have e : f x < b := e
          rcases h5 v y k1 g1 g2 with c | c | ⟨c, c2⟩
          · exact c.symm
          · rw [g3] at e; exact (i_asym e c).elim
          · rw [g3, c] at e; exact absurd e (i_irr _)
        · have e : f x = b := e
          have e2 : rkN t v < rkN t u := (rkN_lt h6 k1 h1).mpr e2
          rcases h5 v y k1 g1 g2 with c | c | ⟨c, c2⟩
          · exact c.symm
          · rw [e, g3] at c; exact absurd c (i_irr _)
          · omega
      subst huv
      rw [h3] at g2
      cases g2
      refine ⟨h4, ?_, g3.symm⟩
      show x = (upto (fiF J t sl a u b f) (2 ^ t) none).getD 0
      rw [g3, fi_tN (p2_le h6) h3]
      rfl
