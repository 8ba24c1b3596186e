theorem dX6_partOf_0 : decode cX6_partOf 0 = .ok (.iload_n 0, 1) := by decide +kernel
theorem dX6_partOf_1 : decode cX6_partOf 1 = .ok (.istore_n 3, 1) := by decide +kernel
theorem dX6_partOf_2 : decode cX6_partOf 2 = .ok (.iload_n 1, 1) := by decide +kernel
theorem dX6_partOf_3 : decode cX6_partOf 3 = .ok (.istore 4, 2) := by decide +kernel
theorem dX6_partOf_5 : decode cX6_partOf 5 = .ok (.iconst 0, 1) := by decide +kernel
theorem dX6_partOf_6 : decode cX6_partOf 6 = .ok (.istore 5, 2) := by decide +kernel
theorem dX6_partOf_8 : decode cX6_partOf 8 = .ok (.iload 5, 2) := by decide +kernel
theorem dX6_partOf_10 : decode cX6_partOf 10 = .ok (.bipush 64, 2) := by decide +kernel
theorem dX6_partOf_12 : decode cX6_partOf 12 = .ok (.if_icmp .ge 27, 3) := by decide +kernel
theorem dX6_partOf_15 : decode cX6_partOf 15 = .ok (.iload 4, 2) := by decide +kernel
theorem dX6_partOf_17 : decode cX6_partOf 17 = .ok (.ifCond .eq 22, 3) := by decide +kernel
theorem dX6_partOf_20 : decode cX6_partOf 20 = .ok (.iload_n 3, 1) := by decide +kernel
theorem dX6_partOf_21 : decode cX6_partOf 21 = .ok (.iload 4, 2) := by decide +kernel
theorem dX6_partOf_23 : decode cX6_partOf 23 = .ok (.irem, 1) := by decide +kernel
theorem dX6_partOf_24 : decode cX6_partOf 24 = .ok (.istore 6, 2) := by decide +kernel
theorem dX6_partOf_26 : decode cX6_partOf 26 = .ok (.iload 4, 2) := by decide +kernel
theorem dX6_partOf_28 : decode cX6_partOf 28 = .ok (.istore_n 3, 1) := by decide +kernel
theorem dX6_partOf_29 : decode cX6_partOf 29 = .ok (.iload 6, 2) := by decide +kernel
theorem dX6_partOf_31 : decode cX6_partOf 31 = .ok (.istore 4, 2) := by decide +kernel
theorem dX6_partOf_33 : decode cX6_partOf 33 = .ok (.iinc 5 1, 3) := by decide +kernel
theorem dX6_partOf_36 : decode cX6_partOf 36 = .ok (.goto (-28), 3) := by decide +kernel
theorem dX6_partOf_39 : decode cX6_partOf 39 = .ok (.iload_n 3, 1) := by decide +kernel
theorem dX6_partOf_40 : decode cX6_partOf 40 = .ok (.ifCond .ne 5, 3) := by decide +kernel
theorem dX6_partOf_43 : decode cX6_partOf 43 = .ok (.lconst 0, 1) := by decide +kernel
theorem dX6_partOf_44 : decode cX6_partOf 44 = .ok (.lreturn, 1) := by decide +kernel
theorem dX6_partOf_45 : decode cX6_partOf 45 = .ok (.iload_n 2, 1) := by decide +kernel
theorem dX6_partOf_46 : decode cX6_partOf 46 = .ok (.ifCond .ne 10, 3) := by decide +kernel
theorem dX6_partOf_49 : decode cX6_partOf 49 = .ok (.iload_n 0, 1) := by decide +kernel
theorem dX6_partOf_50 : decode cX6_partOf 50 = .ok (.iload_n 3, 1) := by decide +kernel
theorem dX6_partOf_51 : decode cX6_partOf 51 = .ok (.idiv, 1) := by decide +kernel
theorem dX6_partOf_52 : decode cX6_partOf 52 = .ok (.i2l, 1) := by decide +kernel
theorem dX6_partOf_53 : decode cX6_partOf 53 = .ok (.goto 7, 3) := by decide +kernel
theorem dX6_partOf_56 : decode cX6_partOf 56 = .ok (.iload_n 1, 1) := by decide +kernel
theorem dX6_partOf_57 : decode cX6_partOf 57 = .ok (.iload_n 3, 1) := by decide +kernel
theorem dX6_partOf_58 : decode cX6_partOf 58 = .ok (.idiv, 1) := by decide +kernel
theorem dX6_partOf_59 : decode cX6_partOf 59 = .ok (.i2l, 1) := by decide +kernel
theorem dX6_partOf_60 : decode cX6_partOf 60 = .ok (.lreturn, 1) := by decide +kernel
theorem dX6_drunk_0 : decode cX6_drunk 0 = .ok (.aload_n 0, 1) := by decide +kernel
theorem dX6_drunk_1 : decode cX6_drunk 1 = .ok (.aload_n 0, 1) := by decide +kernel
theorem dX6_drunk_2 : decode cX6_drunk 2 = .ok (.iload_n 1, 1) := by decide +kernel
theorem dX6_drunk_3 : decode cX6_drunk 3 = .ok (.invokevirtual 82, 3) := by decide +kernel
theorem dX6_drunk_6 : decode cX6_drunk 6 = .ok (.iload_n 2, 1) := by decide +kernel
theorem dX6_drunk_7 : decode cX6_drunk 7 = .ok (.invokestatic 158, 3) := by decide +kernel
theorem dX6_drunk_10 : decode cX6_drunk 10 = .ok (.invokevirtual 161, 3) := by decide +kernel
theorem dX6_drunk_13 : decode cX6_drunk 13 = .ok (.istore_n 3, 1) := by decide +kernel
theorem dX6_drunk_14 : decode cX6_drunk 14 = .ok (.iload_n 3, 1) := by decide +kernel
theorem dX6_drunk_15 : decode cX6_drunk 15 = .ok (.ifCond .ge 10, 3) := by decide +kernel
theorem dX6_drunk_18 : decode cX6_drunk 18 = .ok (.ldc2_w 289, 3) := by decide +kernel
theorem dX6_drunk_21 : decode cX6_drunk 21 = .ok (.iload_n 3, 1) := by decide +kernel
theorem dX6_drunk_22 : decode cX6_drunk 22 = .ok (.i2l, 1) := by decide +kernel
theorem dX6_drunk_23 : decode cX6_drunk 23 = .ok (.ladd, 1) := by decide +kernel
theorem dX6_drunk_24 : decode cX6_drunk 24 = .ok (.lreturn, 1) := by decide +kernel
theorem dX6_drunk_25 : decode cX6_drunk 25 = .ok (.aload_n 0, 1) := by decide +kernel
theorem dX6_drunk_26 : decode cX6_drunk 26 = .ok (.invokevirtual 143, 3) := by decide +kernel
theorem dX6_drunk_29 : decode cX6_drunk 29 = .ok (.lstore 4, 2) := by decide +kernel
theorem dX6_drunk_31 : decode cX6_drunk 31 = .ok (.lload 4, 2) := by decide +kernel
theorem dX6_drunk_33 : decode cX6_drunk 33 = .ok (.getstatic 291, 3) := by decide +kernel
theorem dX6_drunk_36 : decode cX6_drunk 36 = .ok (.iload_n 1, 1) := by decide +kernel
theorem dX6_drunk_37 : decode cX6_drunk 37 = .ok (.laload, 1) := by decide +kernel
theorem dX6_drunk_38 : decode cX6_drunk 38 = .ok (.land, 1) := by decide +kernel
theorem dX6_drunk_39 : decode cX6_drunk 39 = .ok (.invokestatic 146, 3) := by decide +kernel
theorem dX6_drunk_42 : decode cX6_drunk 42 = .ok (.lload 4, 2) := by decide +kernel
theorem dX6_drunk_44 : decode cX6_drunk 44 = .ok (.invokestatic 146, 3) := by decide +kernel
theorem dX6_drunk_47 : decode cX6_drunk 47 = .ok (.iload_n 2, 1) := by decide +kernel
theorem dX6_drunk_48 : decode cX6_drunk 48 = .ok (.invokestatic 295, 3) := by decide +kernel
theorem dX6_drunk_51 : decode cX6_drunk 51 = .ok (.lreturn, 1) := by decide +kernel
theorem dX6_mean_0 : decode cX6_mean 0 = .ok (.aload_n 0, 1) := by decide +kernel
theorem dX6_mean_1 : decode cX6_mean 1 = .ok (.iload_n 1, 1) := by decide +kernel
theorem dX6_mean_2 : decode cX6_mean 2 = .ok (.invokestatic 78, 3) := by decide +kernel
theorem dX6_mean_5 : decode cX6_mean 5 = .ok (.iload_n 2, 1) := by decide +kernel
theorem dX6_mean_6 : decode cX6_mean 6 = .ok (.invokestatic 158, 3) := by decide +kernel
theorem dX6_mean_9 : decode cX6_mean 9 = .ok (.invokevirtual 161, 3) := by decide +kernel
theorem dX6_mean_12 : decode cX6_mean 12 = .ok (.istore_n 3, 1) := by decide +kernel
theorem dX6_mean_13 : decode cX6_mean 13 = .ok (.iload_n 3, 1) := by decide +kernel
theorem dX6_mean_14 : decode cX6_mean 14 = .ok (.ifCond .ge 10, 3) := by decide +kernel
theorem dX6_mean_17 : decode cX6_mean 17 = .ok (.ldc2_w 289, 3) := by decide +kernel
theorem dX6_mean_20 : decode cX6_mean 20 = .ok (.iload_n 3, 1) := by decide +kernel
theorem dX6_mean_21 : decode cX6_mean 21 = .ok (.i2l, 1) := by decide +kernel
theorem dX6_mean_22 : decode cX6_mean 22 = .ok (.ladd, 1) := by decide +kernel
theorem dX6_mean_23 : decode cX6_mean 23 = .ok (.lreturn, 1) := by decide +kernel
theorem dX6_mean_24 : decode cX6_mean 24 = .ok (.aload_n 0, 1) := by decide +kernel
theorem dX6_mean_25 : decode cX6_mean 25 = .ok (.invokevirtual 143, 3) := by decide +kernel
theorem dX6_mean_28 : decode cX6_mean 28 = .ok (.lstore 4, 2) := by decide +kernel
theorem dX6_mean_30 : decode cX6_mean 30 = .ok (.lload 4, 2) := by decide +kernel
theorem dX6_mean_32 : decode cX6_mean 32 = .ok (.invokestatic 146, 3) := by decide +kernel
theorem dX6_mean_35 : decode cX6_mean 35 = .ok (.istore 6, 2) := by decide +kernel
theorem dX6_mean_37 : decode cX6_mean 37 = .ok (.sipush 1000, 3) := by decide +kernel
theorem dX6_mean_40 : decode cX6_mean 40 = .ok (.iload 6, 2) := by decide +kernel
theorem dX6_mean_42 : decode cX6_mean 42 = .ok (.imul, 1) := by decide +kernel
theorem dX6_mean_43 : decode cX6_mean 43 = .ok (.istore 7, 2) := by decide +kernel
theorem dX6_mean_45 : decode cX6_mean 45 = .ok (.iconst 0, 1) := by decide +kernel
theorem dX6_mean_46 : decode cX6_mean 46 = .ok (.istore 8, 2) := by decide +kernel
theorem dX6_mean_48 : decode cX6_mean 48 = .ok (.iload 8, 2) := by decide +kernel
theorem dX6_mean_50 : decode cX6_mean 50 = .ok (.bipush 6, 2) := by decide +kernel
theorem dX6_mean_52 : decode cX6_mean 52 = .ok (.if_icmp .ge 42, 3) := by decide +kernel
theorem dX6_mean_55 : decode cX6_mean 55 = .ok (.iload 7, 2) := by decide +kernel
theorem dX6_mean_57 : decode cX6_mean 57 = .ok (.aload_n 0, 1) := by decide +kernel
theorem dX6_mean_58 : decode cX6_mean 58 = .ok (.getfield 10, 3) := by decide +kernel
theorem dX6_mean_61 : decode cX6_mean 61 = .ok (.getfield 85, 3) := by decide +kernel
theorem dX6_mean_64 : decode cX6_mean 64 = .ok (.iload_n 1, 1) := by decide +kernel
theorem dX6_mean_65 : decode cX6_mean 65 = .ok (.bipush 6, 2) := by decide +kernel
theorem dX6_mean_67 : decode cX6_mean 67 = .ok (.imul, 1) := by decide +kernel
theorem dX6_mean_68 : decode cX6_mean 68 = .ok (.iload 8, 2) := by decide +kernel
theorem dX6_mean_70 : decode cX6_mean 70 = .ok (.iadd, 1) := by decide +kernel
theorem dX6_mean_71 : decode cX6_mean 71 = .ok (.iaload, 1) := by decide +kernel
theorem dX6_mean_72 : decode cX6_mean 72 = .ok (.lload 4, 2) := by decide +kernel
theorem dX6_mean_74 : decode cX6_mean 74 = .ok (.getstatic 291, 3) := by decide +kernel
theorem dX6_mean_77 : decode cX6_mean 77 = .ok (.iload 8, 2) := by decide +kernel
theorem dX6_mean_79 : decode cX6_mean 79 = .ok (.laload, 1) := by decide +kernel
theorem dX6_mean_80 : decode cX6_mean 80 = .ok (.land, 1) := by decide +kernel
theorem dX6_mean_81 : decode cX6_mean 81 = .ok (.invokestatic 146, 3) := by decide +kernel
theorem dX6_mean_84 : decode cX6_mean 84 = .ok (.imul, 1) := by decide +kernel
theorem dX6_mean_85 : decode cX6_mean 85 = .ok (.iadd, 1) := by decide +kernel
theorem dX6_mean_86 : decode cX6_mean 86 = .ok (.istore 7, 2) := by decide +kernel
theorem dX6_mean_88 : decode cX6_mean 88 = .ok (.iinc 8 1, 3) := by decide +kernel
theorem dX6_mean_91 : decode cX6_mean 91 = .ok (.goto (-43), 3) := by decide +kernel
theorem dX6_mean_94 : decode cX6_mean 94 = .ok (.iload 7, 2) := by decide +kernel
theorem dX6_mean_96 : decode cX6_mean 96 = .ok (.iload 6, 2) := by decide +kernel
theorem dX6_mean_98 : decode cX6_mean 98 = .ok (.iload_n 2, 1) := by decide +kernel
theorem dX6_mean_99 : decode cX6_mean 99 = .ok (.invokestatic 295, 3) := by decide +kernel
theorem dX6_mean_102 : decode cX6_mean 102 = .ok (.lreturn, 1) := by decide +kernel
theorem lg0 {Z : Int64} : lg_cmp Z 0 = 0 ↔ Z = 0 := by
  unfold lg_cmp
  constructor
  · intro h
    split at h
    · exact absurd h (by decide)
    · split at h
      · assumption
      · exact absurd h (by decide)
  · intro h
    subst h
    decide
def rfV (I : Nat → Nat → Int32) (J : Nat → Nat → Int64) (t sl he sg : Nat) (k i : Bool) : Int32 := if k then (if i then (if ffP I t sg = -6 then (if kpL I J t sl sg he = 0 then -3 else 0) else -5) else -2) else -1
theorem exF_f {I : Nat → Nat → Int32} {t c w : Nat} {which : Int32} {Z : Int64} {o : Option Nat} (h : lbit Z w = false) : exF I t c which Z w o = o := by unfold exF; rw [h]; exact if_neg (by decide)
theorem exF_n {I : Nat → Nat → Int32} {t c w : Nat} {which : Int32} {Z : Int64} (h : lbit Z w = true) : exF I t c which Z w none = some w := by unfold exF; rw [h]; exact if_pos rfl
theorem exF_s {I : Nat → Nat → Int32} {t c w v : Nat} {which : Int32} {Z : Int64} (h : lbit Z w = true) : exF I t c which Z w (some v) = if exB which (wtF I t c w) (wtF I t c v) then some w else some v := by unfold exF; rw [h]; exact if_pos rfl
theorem ls_ex1 {I : Nat → Nat → Int32} {t c N : Nat} {which : Int32} {sc : Nat → Int32} {Z : Int64} (hc : ∀ v w, v < N → w < N → (sc w < sc v ↔ exB which (wtF I t c w) (wtF I t c v) = true)) : ∀ k, k ≤ N → upto (lsF sc Z) k none = upto (exF I t c which Z) k none
  | 0, _ => (show (none : Option Nat) = none from rfl)
  | k + 1, hk => by
    have ih := ls_ex1 (Z := Z) hc k (by omega)
    have hlt := lsF_lt (sc := sc) (Z := Z) k
    show lsF sc Z k (upto (lsF sc Z) k none) = exF I t c which Z k (upto (exF I t c which Z) k none)
    rw [← ih]
    generalize upto (lsF sc Z) k none = o at hlt
    cases hb : lbit Z k with
    | false => rw [lsF_f hb, exF_f hb]
    | true =>
      cases o with
      | none => rw [lsF_n hb, exF_n hb]
      | some v =>
        have := (hlt v rfl).1
        have h9 := hc v k (by omega) (by omega)
        rw [lsF_s hb, exF_s hb]
        by_cases h : sc k < sc v
        · rw [if_pos h, if_pos (h9.mp h)]
        · rw [if_neg h, if_neg (fun h2 => h (h9.mpr h2))]
theorem kp_0 {Z : Int64} (h : ∀ w, w < 64 → lbit Z w = false) : Z = 0 := l_ext (fun w hw => by rw [h w hw, lb_0])
theorem kp_n0 {Z : Int64} {N : Nat} (hN : N ≤ 64) (hhi : ∀ w, N ≤ w → lbit Z w = false) (h : ¬ Z = 0) : ∃ w, w < N ∧ lbit Z w = true := by
  by_cases hc : 0 < cN (lbit Z) 64
  · obtain ⟨q, h1, h2, -⟩ := cN_ex 64 hc
    refine ⟨q, ?_, h2⟩
    by_cases h3 : q < N
    · exact h3
    · have := hhi q (by omega); rw [h2] at this; cases this
  · exact absurd (kp_0 (cN_0 64 (by omega))) h
theorem mdO_0 {I : Nat → Nat → Int32} {J : Nat → Nat → Int64} {t sl wy wi he sg : Nat} (h64 : 2 ^ t ≤ 64) : kpL I J t sl sg he = 0 ↔ mdO I J t sl wy wi he sg = none := by
  unfold mdO
  constructor
  · intro h
    cases ho : upto (mkF (lkF I t wy wi he) (kpL I J t sl sg he)) (2 ^ t) none with
    | none => rfl
    | some v =>
      have := mkF_bit _ _ ho
      rw [h, lb_0] at this
      cases this
  · intro h
    have h1 := mkF_none _ h
    refine kp_0 (fun w hw => ?_)
    by_cases h2 : w < 2 ^ t
    · exact h1 w h2
    · exact mk64_hi h64 (by omega)
/-- the class's sum for the mean -/
def mS (f : Nat → Int32) (base : Int32) (g : Nat → Nat) : Nat → Int32
  | 0 => base
  | i + 1 => mS f base g i + f i * nI (g i)
theorem mS_congr {f : Nat → Int32} {b : Int32} {g h : Nat → Nat} : ∀ {i : Nat}, (∀ j, j < i → g j = h j) → mS f b g i = mS f b h i
  | 0, _ => rfl
  | i + 1, e => by unfold mS; rw [mS_congr (fun j hj => e j (by omega)), e i (by omega)]
theorem mS_add {f : Nat → Int32} {b : Int32} {g : Nat → Nat} {k : Nat} : ∀ i, mS f (b + 1000) (fun i => g i + if k.testBit i then 1 else 0) i = mS f b g i + (wsum f i k + 1000)
  | 0 => by show b + 1000 = b + (0 + 1000); rw [Int32.zero_add]
  | i + 1 => by
    show mS f (b + 1000) _ i + f i * nI (g i + if k.testBit i then 1 else 0) = (mS f b g i + f i * nI (g i)) + ((wsum f i k + if k.testBit i then f i else 0) + 1000)
    rw [mS_add i, ← nI_add, Int32.mul_add, show f i * nI (if k.testBit i then 1 else 0) = if k.testBit i then f i else 0 from by cases k.testBit i; (exact Int32.mul_zero); exact Int32.mul_one _]
    ac_rfl
theorem mS_sum {f : Nat → Int32} {Z : Nat → Bool} : ∀ k, mS f (1000 * nI (cN Z k)) (fun i => cN (fun w => Z w && w.testBit i) k) 6 = upto (fun w s => s + if Z w then wsum f 6 w + 1000 else 0) k 0
  | 0 => by
    have : ∀ i, mS f (1000 * nI 0) (fun _ => 0) i = 0 := by
      intro i
      induction i with
      | zero => exact (show (1000 : Int32) * nI 0 = 0 by decide)
      | succ i ih => show mS f (1000 * nI 0) (fun _ => 0) i + f i * nI 0 = 0; rw [ih, Int32.zero_add]; exact Int32.mul_zero
    exact this 6
  | k + 1 => by
    have ih := mS_sum (f := f) (Z := Z) k
    show _ = upto (fun w s => s + if Z w then wsum f 6 w + 1000 else 0) k 0 + (if Z k then wsum f 6 k + 1000 else 0)
    rw [← ih]
    cases hz : Z k with
    | false =>
      have e1 : cN Z (k + 1) = cN Z k := by show cN Z k + (if Z k then 1 else 0) = _; rw [hz]; rfl
      rw [e1, if_neg (by decide), i_add0]
      exact mS_congr (fun j _ => by show cN _ k + (if (Z k && k.testBit j) = true then 1 else 0) = _; rw [hz]; rfl)
    | true =>
      have e1 : cN Z (k + 1) = cN Z k + 1 := by show cN Z k + (if Z k then 1 else 0) = _; rw [hz]; rfl
      rw [e1, if_pos rfl, ← mS_add, ← nI_add, Int32.mul_add, show (1000 : Int32) * nI 1 = 1000 from rfl]
      exact mS_congr (fun j _ => by show cN _ k + (if (Z k && k.testBit j) = true then 1 else 0) = _; rw [hz, Bool.true_and])
theorem upto_sN {f : Nat → Int32} {g : Nat → Nat} : ∀ {k : Nat}, (∀ w, w < k → f w = nI (g w)) → upto (fun w s => s + f w) k 0 = nI (sN g k)
  | 0, _ => rfl
  | k + 1, h => by
    show upto (fun w s => s + f w) k 0 + f k = nI (sN g k + g k)
    rw [upto_sN (fun w hw => h w (by omega)), h k (by omega), nI_add]
theorem sN_flat {g : Nat → Nat} {a b : Nat} (h : a ≤ b) (h2 : ∀ i, a ≤ i → i < b → g i = 0) : sN g b = sN g a := by
  induction b with
  | zero => rw [Nat.le_zero.mp h]
  | succ b ih =>
    by_cases e : a = b + 1
    · rw [e]
    · show sN g b + g b = _
      rw [ih (by omega) (fun i h3 h4 => h2 i h3 (by omega)), h2 b (by omega) (by omega)]; rfl
theorem wn_ok {I : Nat → Nat → Int32} {J : Nat → Nat → Int64} {t sl wy wi he c : Nat} (hk : KI I J t sl wy wi he) (hc : c < 4) (w : Nat) : wtF I t c w + 1000 = nI (wn I t c w) ∧ wn I t c w ≤ 2000 := by
  have hb := wtF_b hk hc w
  have e1 : (1000 : Int32).toInt = 1000 := rfl
  have e2 : (wtF I t c w + 1000).toInt = (wtF I t c w).toInt + 1000 := ti_add (by omega) (by rw [e1]; omega)
  obtain ⟨m, hm, e⟩ := nI_of (x := wtF I t c w + 1000) (by rw [i_lt, e2, e_0i]; omega)
  have e3 : (wtF I t c w + 1000).toInt = m := by rw [e, nI_toInt hm]
  unfold wn
  rw [e, nI_clamp hm]
  exact ⟨rfl, by omega⟩
section CLS7
variable {xl : Nat} {xs : Nat → Int32} {n : Nat} {h : Nat → PC} {I S : Nat → Nat → Int32} {J T : Nat → Nat → Int64} {X : Nat → Option Nat} {t sl wy wi he sg : Nat}
theorem k_X6_refusalOf {k i : Bool} (hn : 49 ≤ n) (hk : KI I J t sl wy wi he) (hp : PdI I sg) : RnS xl xs 3 69 0 0 mX6_refusalOf [.ref 0, .int (b2i k), .int (b2i i)] n I J X (some (.int (rfV I J t sl he sg k i))) n I J X := by
  intro S T Q hQ
  show Ev xl xs 3 69 0 0 mX6_refusalOf 0 [some (.ref 0), some (.int (b2i k)), some (.int (b2i i))] [] n (sysH (ov I S) (ovJ J T) X) Q
  unfold rfV at hQ
  cases k with
  | false =>
    rw [if_neg (by decide)] at hQ
    refine ev_iload_n (q := 1) dX6_refusalOf_0 rfl rfl ?_
    refine ev_if_ne (q := 4) 6 dX6_refusalOf_1 (by decide) rfl (fun c_1 => ?_) (fun c_1 => ?_)
    · exact absurd rfl c_1
    · refine ev_iconst (q := 5) (-1) dX6_refusalOf_4 (by decide) rfl ?_
      exact ev_iretE dX6_refusalOf_5 rfl rfl rfl rfl rfl (hQ _ _)
  | true =>
    rw [if_pos rfl] at hQ
    cases i with
    | false =>
      rw [if_neg (by decide)] at hQ
      refine ev_iload_n (q := 1) dX6_refusalOf_0 rfl rfl ?_
      refine ev_if_ne (q := 4) 6 dX6_refusalOf_1 (by decide) rfl (fun c_1 => ?_) (fun c_1 => ?_)
      · refine ev_iload_n (q := 7) dX6_refusalOf_6 rfl rfl ?_
        refine ev_if_ne (q := 10) 13 dX6_refusalOf_7 (by decide) rfl (fun c_7 => ?_) (fun c_7 => ?_)
        · exact absurd rfl c_7
        · refine ev_bipush (q := 12) (-2) dX6_refusalOf_10 (by decide) rfl ?_
          exact ev_iretE dX6_refusalOf_12 rfl rfl rfl rfl rfl (hQ _ _)
      · exact absurd c_1 (by decide)
    | true =>
      rw [if_pos rfl] at hQ
      by_cases hf : ffP I t sg = -6
      · have hb : decide (ffP I t sg ≠ -6) = false := decide_eq_false (fun h => h hf)
        rw [if_pos hf] at hQ
        refine ev_iload_n (q := 1) dX6_refusalOf_0 rfl rfl ?_
        refine ev_if_ne (q := 4) 6 dX6_refusalOf_1 (by decide) rfl (fun c_1 => ?_) (fun c_1 => ?_)
        · refine ev_iload_n (q := 7) dX6_refusalOf_6 rfl rfl ?_
          refine ev_if_ne (q := 10) 13 dX6_refusalOf_7 (by decide) rfl (fun c_7 => ?_) (fun c_7 => ?_)
          · refine ev_aload_n (q := 14) dX6_refusalOf_13 rfl rfl ?_
            refine ev_callV0i (q := 17) dX6_refusalOf_14 ca_X6_127 (k_X6_isFaulty hn hk hp) rfl (lt_n hn (by decide)) rfl rfl (Nat.le_of_ble_eq_true rfl) (Nat.le_of_ble_eq_true rfl) (by decide) (by decide) rfl ?_
            rw [hb]
            refine ev_if_eq (q := 20) 23 dX6_refusalOf_17 (by decide) rfl (fun c_17 => ?_) (fun c_17 => ?_)
            · refine ev_aload_n (q := 24) dX6_refusalOf_23 rfl rfl ?_
              refine ev_callV0lP (q := 27) dX6_refusalOf_24 ca_X6_143 (k_X6_wishWorlds hn hk hp hf) rfl (lt_n hn (by decide)) rfl rfl (Nat.le_of_ble_eq_true rfl) (Nat.le_of_ble_eq_true rfl) (by decide) (by decide) rfl (fun S T hp_24 => ?_)
              refine ev_lconst (q := 28) (0) dX6_refusalOf_27 (by decide) rfl ?_
              refine ev_lcmp (q := 29) dX6_refusalOf_28 rfl ?_
              refine ev_if_ne (q := 32) 37 dX6_refusalOf_29 (by decide) rfl (fun c_29 => ?_) (fun c_29 => ?_)
              · have c_29 : ¬ kpL I J t sl sg he = 0 := fun h => c_29 (lg0.mpr h)
                rw [if_neg c_29] at hQ
                refine ev_iconst (q := 38) (0) dX6_refusalOf_37 (by decide) rfl ?_
                exact ev_iretE dX6_refusalOf_38 rfl rfl rfl rfl rfl (hQ _ _)
              · have c_29 : kpL I J t sl sg he = 0 := lg0.mp c_29
                rw [if_pos c_29] at hQ
                refine ev_bipush (q := 34) (-3) dX6_refusalOf_32 (by decide) rfl ?_
                refine ev_goto 38 dX6_refusalOf_34 (by decide) ?_
                exact ev_iretE dX6_refusalOf_38 rfl rfl rfl rfl rfl (hQ _ _)
            · exact absurd rfl c_17
          · exact absurd c_7 (by decide)
        · exact absurd c_1 (by decide)
      · have hb : decide (ffP I t sg ≠ -6) = true := decide_eq_true hf
        rw [if_neg hf] at hQ
        refine ev_iload_n (q := 1) dX6_refusalOf_0 rfl rfl ?_
        refine ev_if_ne (q := 4) 6 dX6_refusalOf_1 (by decide) rfl (fun c_1 => ?_) (fun c_1 => ?_)
        · refine ev_iload_n (q := 7) dX6_refusalOf_6 rfl rfl ?_
          refine ev_if_ne (q := 10) 13 dX6_refusalOf_7 (by decide) rfl (fun c_7 => ?_) (fun c_7 => ?_)
          · refine ev_aload_n (q := 14) dX6_refusalOf_13 rfl rfl ?_
            refine ev_callV0i (q := 17) dX6_refusalOf_14 ca_X6_127 (k_X6_isFaulty hn hk hp) rfl (lt_n hn (by decide)) rfl rfl (Nat.le_of_ble_eq_true rfl) (Nat.le_of_ble_eq_true rfl) (by decide) (by decide) rfl ?_
            rw [hb]
            refine ev_if_eq (q := 20) 23 dX6_refusalOf_17 (by decide) rfl (fun c_17 => ?_) (fun c_17 => ?_)
            · exact absurd c_17 (by decide)
            · refine ev_bipush (q := 22) (-5) dX6_refusalOf_20 (by decide) rfl ?_
              exact ev_iretE dX6_refusalOf_22 rfl rfl rfl rfl rfl (hQ _ _)
          · exact absurd c_7 (by decide)
        · exact absurd c_1 (by decide)
theorem rfV_c {k i : Bool} : (rfV I J t sl he sg k i < 0 ∧ ¬ (k = true ∧ i = true ∧ ffP I t sg = -6 ∧ ¬ kpL I J t sl sg he = 0)) ∨ (rfV I J t sl he sg k i = 0 ∧ k = true ∧ i = true ∧ ffP I t sg = -6 ∧ ¬ kpL I J t sl sg he = 0) := by
  unfold rfV
  cases k with
  | false => left; rw [if_neg (by decide)]; exact ⟨by decide, fun h => by cases h.1⟩
  | true =>
    cases i with
    | false => left; rw [if_pos rfl, if_neg (by decide)]; exact ⟨by decide, fun h => by cases h.2.1⟩
    | true =>
      by_cases hf : ffP I t sg = -6
      · by_cases hz : kpL I J t sl sg he = 0
        · left; rw [if_pos rfl, if_pos rfl, if_pos hf, if_pos hz]; exact ⟨by decide, fun h => h.2.2.2 hz⟩
        · right; rw [if_pos rfl, if_pos rfl, if_pos hf, if_neg hz]; exact ⟨rfl, rfl, rfl, hf, hz⟩
      · left; rw [if_pos rfl, if_pos rfl, if_neg hf]; exact ⟨by decide, fun h => hf h.2.2.1⟩
theorem k_X6_extreme (hn : 49 ≤ n) (hk : KI I J t sl wy wi he) (hp : PdI I sg) (c which what : Int32) : RnS xl xs 4 91 0 0 mX6_extreme [.ref 0, .int c, .int which, .int what] n I J X (some (.int (if inb c 0 3 then (if inb which 0 1 && inb what 0 1 then (if ffP I t sg = -6 then (match upto (exF I t c.toNatClampNeg which (kpL I J t sl sg he)) (2 ^ t) none with | none => -3 | some v => if what = 0 then wtF I t c.toNatClampNeg v + 1000 else nI v) else -5) else -2) else -1))) n I J X := by
  intro S T Q hQ
  have h6 := hk.1.2.2.1
  have h64 := p2_le h6
  show Ev xl xs 4 91 0 0 mX6_extreme 0 [some (.ref 0), some (.int c), some (.int which), some (.int what), none, none, none] [] n (sysH (ov I S) (ovJ J T) X) Q
  have J24 : ∀ x, x = b2i (inb which 0 1 && inb what 0 1) → Ev xl xs 4 91 0 0 mX6_extreme 24 [some (.ref 0), some (.int c), some (.int which), some (.int what), none, none, none] [.int x, .int (b2i (inb c 0 3)), .ref 0] n (sysH (ov I S) (ovJ J T) X) Q := by
    intro x hx
    subst hx
    rcases rfV_c (I := I) (J := J) (t := t) (sl := sl) (he := he) (sg := sg) (k := inb c 0 3) (i := inb which 0 1 && inb what 0 1) with ⟨hneg, hno⟩ | ⟨hz, hk1, hi1, hf, hn0⟩
    · have hr : rfV I J t sl he sg (inb c 0 3) (inb which 0 1 && inb what 0 1) = (if inb c 0 3 then (if inb which 0 1 && inb what 0 1 then (if ffP I t sg = -6 then (match upto (exF I t c.toNatClampNeg which (kpL I J t sl sg he)) (2 ^ t) none with | none => -3 | some v => if what = 0 then wtF I t c.toNatClampNeg v + 1000 else nI v) else -5) else -2) else -1) := by
        unfold rfV
        cases hk1 : inb c 0 3 with
        | false => rfl
        | true =>
          cases hi1 : (inb which 0 1 && inb what 0 1) with
          | false => rfl
          | true =>
            rw [if_pos rfl, if_pos rfl, if_pos rfl, if_pos rfl]
            by_cases hf : ffP I t sg = -6
            · rw [if_pos hf, if_pos hf]
              by_cases hz : kpL I J t sl sg he = 0
              · rw [if_pos hz, hz, exF_none _ (fun w _ => lb_0 w)]
              · exact absurd ⟨hk1, hi1, hf, hz⟩ hno
            · rw [if_neg hf, if_neg hf]
      refine ev_callV2iS (q := 27) dX6_extreme_24 ca_X6_161 (k_X6_refusalOf hn hk hp) rfl (lt_n hn (by decide)) rfl rfl (Nat.le_of_ble_eq_true rfl) (Nat.le_of_ble_eq_true rfl) (by decide) (by decide) rfl (fun S T => ?_)
      refine ev_ist_4 (q := 29) dX6_extreme_27 rfl rfl ?_
      refine ev_iload (q := 31) dX6_extreme_29 rfl rfl ?_
      refine ev_if_ge (q := 34) 37 dX6_extreme_31 (by decide) rfl (fun c_31 => ?_) (fun c_31 => ?_)
      · exact absurd hneg (by simp only [i_le, i_lt] at *; omega)
      · refine ev_iload (q := 36) dX6_extreme_34 rfl rfl ?_
        exact ev_iretE dX6_extreme_36 rfl rfl hr rfl rfl (hQ _ _)
    · rw [hk1, hi1, if_pos rfl, if_pos rfl, if_pos hf] at hQ
      rw [hk1, hi1] at hz ⊢
      have hi2 := Bool.and_eq_true_iff.mp hi1
      obtain ⟨C, -, hC3, rfl⟩ := inb_lo (lo := 0) (hi := 3) (by decide) hk1 (by decide)
      rw [nI_clamp (by omega)] at hQ
      have hhi : ∀ w, 2 ^ t ≤ w → lbit (kpL I J t sl sg he) w = false := fun w hw => mk64_hi h64 hw
      obtain ⟨w0, hw0, hb0⟩ := kp_n0 h64 hhi hn0
      have hwz : ∀ S T, _ := fun S T => k_X6_wishWorlds (xl := xl) (xs := xs) (n := n) (S := S) (T := T) (X := X) hn hk hp hf
      obtain ⟨v, hv⟩ : ∃ v, upto (exF I t C which (kpL I J t sl sg he)) (2 ^ t) none = some v := by
        cases hx : upto (exF I t C which (kpL I J t sl sg he)) (2 ^ t) none with
        | none => exact absurd hx (exF_some _ _ hw0 hb0)
        | some v => exact ⟨v, rfl⟩
      rw [hv] at hQ
      have hv2 := exF_lt _ _ hv
      generalize kpL I J t sl sg he = Z at hwz hv hhi
      have tail : ∀ g : Int32, (∀ x : Int32, g * (g * x) = x) → (∀ v w, v < 2 ^ t → w < 2 ^ t → (g * wtF I t C w < g * wtF I t C v ↔ exB which (wtF I t C w) (wtF I t C v) = true)) → ∀ S T, Ev xl xs 4 91 0 0 mX6_extreme 46 [some (.ref 0), some (.int (nI C)), some (.int which), some (.int what), some (.int 0), none, none] [.int g] n (sysH (ov I S) (ovJ J T) X) Q := by
        intro g hg hcmp S T
        have hwt : ∀ w, w < 2 ^ t → wsum (fun k => I 2 (6 * C + k)) 6 w = wtF I t C w := fun w hw => wtK hk (by omega) hw
        have hls : lsO (upS 0 (fillA S 31 64 (fun w => g * wsum (fun k => I 2 (6 * C + k)) 6 w) 31) 0) Z = some v := by
          rw [← hv]
          have e1 := ls_ex1 (I := I) (t := t) (c := C) (which := which) (sc := upS 0 (fillA S 31 64 (fun w => g * wsum (fun k => I 2 (6 * C + k)) 6 w) 31) 0) (Z := Z) (N := 2 ^ t) (fun v w hv hw => by
            unfold upS
            rw [fillA_at (by omega), fillA_at (by omega), Int32.zero_mul, Int32.zero_mul, i_add0, i_add0, hwt v hv, hwt w hw]
            exact hcmp v w hv hw) (2 ^ t) (Nat.le_refl _)
          rw [← e1]
          exact lsF_skip2 (q := 64) h64 (fun i h1 _ => hhi i h1)
        have hval : fillA S 31 64 (fun w => g * wsum (fun k => I 2 (6 * C + k)) 6 w) 31 v = g * wtF I t C v := by rw [fillA_at (by omega), hwt v hv2]
        generalize hSS : fillA S 31 64 (fun w => g * wsum (fun k => I 2 (6 * C + k)) 6 w) = SS at hls hval
        have hfl := k_fill_2_31 (xl := xl) (xs := xs) (n := n) (I := I) (S := S) (J := J) (T := T) (X := X) (b := 6 * C) (g := g) hn (by omega)
        rw [hSS] at hfl
        refine ev_ist_5 (q := 48) dX6_extreme_46 rfl rfl ?_
        refine ev_aload_n (q := 49) dX6_extreme_48 rfl rfl ?_
        refine ev_get (q := 52) dX6_extreme_49 fr_X6_10 rfl (lt_n hn (by decide)) rfl rfl ?_
        refine ev_get (q := 55) dX6_extreme_52 fr_X6_85 rfl (lt_n hn (by decide)) rfl rfl ?_
        refine ev_iload_n (q := 56) dX6_extreme_55 rfl rfl ?_
        refine ev_bipush (q := 58) (6) dX6_extreme_56 (by decide) rfl ?_
        refine ev_imul (q := 59) dX6_extreme_58 rfl ?_
        refine ev_iload (q := 61) dX6_extreme_59 rfl rfl ?_
        refine ev_aload_n (q := 62) dX6_extreme_61 rfl rfl ?_
        refine ev_get (q := 65) dX6_extreme_62 fr_X6_60 rfl (lt_n hn (by decide)) rfl rfl ?_
        rw [show nI C * 6 = nI (6 * C) from (pk_mul C 6).trans (by rw [Nat.mul_comm])]
        refine ev_callS4v (q := 68) dX6_extreme_65 ca_X6_165 hfl (Nat.le_of_ble_eq_true rfl) (Nat.le_of_ble_eq_true rfl) (by decide) (by decide) rfl ?_
        refine ev_aload_n (q := 69) dX6_extreme_68 rfl rfl ?_
        refine ev_callV0lP (q := 72) dX6_extreme_69 ca_X6_143 (hwz SS T) rfl (lt_n hn (by decide)) rfl rfl (Nat.le_of_ble_eq_true rfl) (Nat.le_of_ble_eq_true rfl) (by decide) (by decide) rfl (fun S T hp_69 => ?_)
        rw [hp_69]
        refine ev_aload_n (q := 73) dX6_extreme_72 rfl rfl ?_
        refine ev_get (q := 76) dX6_extreme_73 fr_X6_60 rfl (lt_n hn (by decide)) rfl rfl ?_
        refine ev_iconst (q := 77) (0) dX6_extreme_76 (by decide) rfl ?_
        refine ev_iconst (q := 78) (0) dX6_extreme_77 (by decide) rfl ?_
        refine ev_callS4i (q := 81) dX6_extreme_78 ca_X6_169 (k_least_31 (a := 0) hn (by decide)) (Nat.le_of_ble_eq_true rfl) (Nat.le_of_ble_eq_true rfl) (by decide) (by decide) rfl ?_
        rw [hls]
        refine ev_ist_6 (q := 83) dX6_extreme_81 rfl rfl ?_
        refine ev_iload (q := 85) dX6_extreme_83 rfl rfl ?_
        refine ev_if_ge (q := 88) 91 dX6_extreme_85 (by decide) rfl (fun c_85 => ?_) (fun c_85 => ?_)
        · refine ev_iload_n (q := 92) dX6_extreme_91 rfl rfl ?_
          refine ev_if_ne (q := 95) 112 dX6_extreme_92 (by decide) rfl (fun c_92 => ?_) (fun c_92 => ?_)
          · have c_92 : ¬ what = 0 := c_92
            refine ev_iload (q := 114) dX6_extreme_112 rfl rfl ?_
            exact ev_iretE dX6_extreme_114 rfl rfl (by show _ = (if what = 0 then wtF I t C v + 1000 else nI v); first | (rw [if_pos c_92]; done) | (rw [if_neg c_92]; rfl)) rfl rfl (hQ _ _)
          · have c_92 : what = 0 := c_92
            refine ev_iload (q := 97) dX6_extreme_95 rfl rfl ?_
            refine ev_aload_n (q := 98) dX6_extreme_97 rfl rfl ?_
            refine ev_get (q := 101) dX6_extreme_98 fr_X6_60 rfl (lt_n hn (by decide)) rfl rfl ?_
            refine ev_iload (q := 103) dX6_extreme_101 rfl rfl ?_
            refine ev_iaS (q := 104) v dX6_extreme_103 rfl rfl (by omega) (lt_n hn (by decide)) rfl ?_
            rw [show ov I SS 31 v = g * wtF I t C v from hval]
            refine ev_imul (q := 105) dX6_extreme_104 rfl ?_
            rw [hg]
            refine ev_sipush (q := 108) (1000) dX6_extreme_105 (by decide) rfl ?_
            refine ev_iadd (q := 109) dX6_extreme_108 rfl ?_
            refine ev_goto 114 dX6_extreme_109 (by decide) ?_
            exact ev_iretE dX6_extreme_114 rfl rfl (by show _ = (if what = 0 then wtF I t C v + 1000 else nI v); first | (rw [if_pos c_92]; done) | (rw [if_neg c_92]; rfl)) rfl rfl (hQ _ _)
        · exact absurd (nI_pos' (n := v) (by omega)) c_85
      have hb54 : ∀ w, _ := fun w => wtF_b hk (show C < 4 by omega) w
      refine ev_callV2iS (q := 27) dX6_extreme_24 ca_X6_161 (k_X6_refusalOf hn hk hp) rfl (lt_n hn (by decide)) rfl rfl (Nat.le_of_ble_eq_true rfl) (Nat.le_of_ble_eq_true rfl) (by decide) (by decide) rfl (fun S T => ?_)
      refine ev_ist_4 (q := 29) dX6_extreme_27 rfl rfl ?_
      rw [hz]
      refine ev_iload (q := 31) dX6_extreme_29 rfl rfl ?_
      refine ev_if_ge (q := 34) 37 dX6_extreme_31 (by decide) rfl (fun c_31 => ?_) (fun c_31 => ?_)
      · refine ev_iload_n (q := 38) dX6_extreme_37 rfl rfl ?_
        refine ev_if_ne (q := 41) 45 dX6_extreme_38 (by decide) rfl (fun c_38 => ?_) (fun c_38 => ?_)
        · have c_38 : ¬ which = 0 := c_38
          refine ev_iconst (q := 46) (-1) dX6_extreme_45 (by decide) rfl ?_
          first | exact tail 1 (fun x => by rw [Int32.one_mul, Int32.one_mul]) (fun v w _ _ => by unfold exB; rw [if_pos c_38, Int32.one_mul, Int32.one_mul, decide_eq_true_iff]) _ _ | exact tail (-1) (fun x => by rw [ne1_mul, ne1_mul, Int32.neg_neg]) (fun v w _ _ => by unfold exB; have b1 := hb54 v; have b2 := hb54 w; rw [if_neg c_38, ne1_mul, ne1_mul, decide_eq_true_iff, i_lt, i_lt, ti_neg (by omega), ti_neg (by omega)]; omega) _ _
        · have c_38 : which = 0 := c_38
          refine ev_iconst (q := 42) (1) dX6_extreme_41 (by decide) rfl ?_
          refine ev_goto 46 dX6_extreme_42 (by decide) ?_
          first | exact tail 1 (fun x => by rw [Int32.one_mul, Int32.one_mul]) (fun v w _ _ => by unfold exB; rw [if_pos c_38, Int32.one_mul, Int32.one_mul, decide_eq_true_iff]) _ _ | exact tail (-1) (fun x => by rw [ne1_mul, ne1_mul, Int32.neg_neg]) (fun v w _ _ => by unfold exB; have b1 := hb54 v; have b2 := hb54 w; rw [if_neg c_38, ne1_mul, ne1_mul, decide_eq_true_iff, i_lt, i_lt, ti_neg (by omega), ti_neg (by omega)]; omega) _ _
      · exact absurd (show (0 : Int32) ≤ 0 by decide) c_31
  refine ev_aload_n (q := 1) dX6_extreme_0 rfl rfl ?_
  refine ev_iload_n (q := 2) dX6_extreme_1 rfl rfl ?_
  refine ev_callS1i (q := 5) dX6_extreme_2 ca_X6_78 (c_X6_isCousin _) (Nat.le_of_ble_eq_true rfl) (Nat.le_of_ble_eq_true rfl) (by decide) (by decide) rfl ?_
  refine ev_iload_n (q := 6) dX6_extreme_5 rfl rfl ?_
  refine ev_callS1i (q := 9) dX6_extreme_6 ca_X6_158 (c_X6_isBit _) (Nat.le_of_ble_eq_true rfl) (Nat.le_of_ble_eq_true rfl) (by decide) (by decide) rfl ?_
  refine ev_if_eq (q := 12) 23 dX6_extreme_9 (by decide) rfl (fun c_9 => ?_) (fun c_9 => ?_)
  · have c_9 := b2i_0.mp c_9
    refine ev_iconst (q := 24) (0) dX6_extreme_23 (by decide) rfl ?_
    first | exact J24 _ (by rw [c_9, Bool.false_and]; rfl) | exact J24 _ (by rw [c_9, c_16]; rfl)
  · have c_9 := b2i_n0.mp c_9
    refine ev_iload_n (q := 13) dX6_extreme_12 rfl rfl ?_
    refine ev_callS1i (q := 16) dX6_extreme_13 ca_X6_158 (c_X6_isBit _) (Nat.le_of_ble_eq_true rfl) (Nat.le_of_ble_eq_true rfl) (by decide) (by decide) rfl ?_
    refine ev_if_eq (q := 19) 23 dX6_extreme_16 (by decide) rfl (fun c_16 => ?_) (fun c_16 => ?_)
    · have c_16 := b2i_0.mp c_16
      refine ev_iconst (q := 24) (0) dX6_extreme_23 (by decide) rfl ?_
      first | exact J24 _ (by rw [c_9, Bool.false_and]; rfl) | exact J24 _ (by rw [c_9, c_16]; rfl)
    · have c_16 := b2i_n0.mp c_16
      refine ev_iconst (q := 20) (1) dX6_extreme_19 (by decide) rfl ?_
      refine ev_goto 24 dX6_extreme_20 (by decide) ?_
      first | exact J24 _ (by rw [c_9, Bool.false_and]; rfl) | exact J24 _ (by rw [c_9, c_16]; rfl)
theorem c_X6_partOf {a b : Nat} {part : Int32} (ha : a < 2 ^ 31) (hb : b ≤ 64) (hb0 : 0 < b) : Rn xl xs 0 0 0 0 mX6_partOf [.int (nI a), .int (nI b), .int part] n h (some (.long (lN (leastN a b part)))) n h := by
  intro Q hQ
  show Ev xl xs 0 0 0 0 mX6_partOf 0 [some (.int (nI a)), some (.int (nI b)), some (.int part), none, none, none, none] [] n h Q
  have hg : 0 < Nat.gcd a b := Nat.gcd_pos_of_pos_right _ hb0
  have hgb : Nat.gcd a b ≤ b := Nat.gcd_le_right _ hb0
  have lp : ∀ i y x, x < 2 ^ 31 → y ≤ 64 - i → i ≤ 64 → Nat.gcd x y = Nat.gcd a b → ∀ a6, Ev xl xs 0 0 0 0 mX6_partOf 8 [some (.int (nI a)), some (.int (nI b)), some (.int part), some (.int (nI x)), some (.int (nI y)), some (.int (nI i)), a6] [] n h Q := by
    have key : ∀ j i, i + j = 64 → ∀ y x, x < 2 ^ 31 → y ≤ 64 - i → Nat.gcd x y = Nat.gcd a b → ∀ a6, Ev xl xs 0 0 0 0 mX6_partOf 8 [some (.int (nI a)), some (.int (nI b)), some (.int part), some (.int (nI x)), some (.int (nI y)), some (.int (nI i)), a6] [] n h Q := by
      intro j
      induction j with
      | zero =>
        intro i hi y x hx hy hgc a6
        have hy0 : y = 0 := by omega
        subst hy0
        rw [Nat.gcd_zero_right] at hgc
        subst hgc
        have hne : ¬ nI (Nat.gcd a b) = 0 := nI_ne0 hg (by omega)
        refine ev_iload (q := 10) dX6_partOf_8 rfl rfl ?_
        refine ev_bipush (q := 12) (64) dX6_partOf_10 (by decide) rfl ?_
        refine ev_icmp_ge (q := 15) 39 dX6_partOf_12 (by decide) rfl (fun c_12 => ?_) (fun c_12 => ?_)
        · refine ev_iload_n (q := 40) dX6_partOf_39 rfl rfl ?_
          refine ev_if_ne (q := 43) 45 dX6_partOf_40 (by decide) rfl (fun c_40 => ?_) (fun c_40 => ?_)
          · refine ev_iload_n (q := 46) dX6_partOf_45 rfl rfl ?_
            refine ev_if_ne (q := 49) 56 dX6_partOf_46 (by decide) rfl (fun c_46 => ?_) (fun c_46 => ?_)
            · have c_46 : ¬ part = 0 := c_46
              refine ev_iload_n (q := 57) dX6_partOf_56 rfl rfl ?_
              refine ev_iload_n (q := 58) dX6_partOf_57 rfl rfl ?_
              refine ev_idiv (q := 59) hne dX6_partOf_58 rfl ?_
              rw [pk_div (by omega) hg (by omega)]
              refine ev_i2l (q := 60) dX6_partOf_59 rfl ?_
              exact ev_lretE dX6_partOf_60 rfl (by unfold leastN; first | (rw [if_pos c_46, nI_l (Nat.lt_of_le_of_lt (Nat.div_le_self _ _) ha)]; done) | (rw [if_neg c_46, nI_l (Nat.lt_of_le_of_lt (Nat.div_le_self _ _) (by omega))])) rfl rfl hQ
            · have c_46 : part = 0 := c_46
              refine ev_iload_n (q := 50) dX6_partOf_49 rfl rfl ?_
              refine ev_iload_n (q := 51) dX6_partOf_50 rfl rfl ?_
              refine ev_idiv (q := 52) hne dX6_partOf_51 rfl ?_
              rw [pk_div ha hg (by omega)]
              refine ev_i2l (q := 53) dX6_partOf_52 rfl ?_
              refine ev_goto 60 dX6_partOf_53 (by decide) ?_
              exact ev_lretE dX6_partOf_60 rfl (by unfold leastN; first | (rw [if_pos c_46, nI_l (Nat.lt_of_le_of_lt (Nat.div_le_self _ _) ha)]; done) | (rw [if_neg c_46, nI_l (Nat.lt_of_le_of_lt (Nat.div_le_self _ _) (by omega))])) rfl rfl hQ
          · exact absurd c_40 hne
        · exact absurd ((nI_leI (a := 64) (by omega) (by omega)).mpr (by omega)) c_12
      | succ j ih =>
        intro i hi y x hx hy hgc a6
        by_cases hy0 : y = 0
        · subst hy0
          rw [Nat.gcd_zero_right] at hgc
          subst hgc
          have hne : ¬ nI (Nat.gcd a b) = 0 := nI_ne0 hg (by omega)
          refine ev_iload (q := 10) dX6_partOf_8 rfl rfl ?_
          refine ev_bipush (q := 12) (64) dX6_partOf_10 (by decide) rfl ?_
          refine ev_icmp_ge (q := 15) 39 dX6_partOf_12 (by decide) rfl (fun c_12 => ?_) (fun c_12 => ?_)
          · exact absurd ((nI_leI (a := 64) (by omega) (by omega)).mp c_12) (by omega)
          · refine ev_iload (q := 17) dX6_partOf_15 rfl rfl ?_
            refine ev_if_eq (q := 20) 39 dX6_partOf_17 (by decide) rfl (fun c_17 => ?_) (fun c_17 => ?_)
            · refine ev_iload_n (q := 40) dX6_partOf_39 rfl rfl ?_
              refine ev_if_ne (q := 43) 45 dX6_partOf_40 (by decide) rfl (fun c_40 => ?_) (fun c_40 => ?_)
              · refine ev_iload_n (q := 46) dX6_partOf_45 rfl rfl ?_
                refine ev_if_ne (q := 49) 56 dX6_partOf_46 (by decide) rfl (fun c_46 => ?_) (fun c_46 => ?_)
                · have c_46 : ¬ part = 0 := c_46
                  refine ev_iload_n (q := 57) dX6_partOf_56 rfl rfl ?_
                  refine ev_iload_n (q := 58) dX6_partOf_57 rfl rfl ?_
                  refine ev_idiv (q := 59) hne dX6_partOf_58 rfl ?_
                  rw [pk_div (by omega) hg (by omega)]
                  refine ev_i2l (q := 60) dX6_partOf_59 rfl ?_
                  exact ev_lretE dX6_partOf_60 rfl (by unfold leastN; first | (rw [if_pos c_46, nI_l (Nat.lt_of_le_of_lt (Nat.div_le_self _ _) ha)]; done) | (rw [if_neg c_46, nI_l (Nat.lt_of_le_of_lt (Nat.div_le_self _ _) (by omega))])) rfl rfl hQ
                · have c_46 : part = 0 := c_46
                  refine ev_iload_n (q := 50) dX6_partOf_49 rfl rfl ?_
                  refine ev_iload_n (q := 51) dX6_partOf_50 rfl rfl ?_
                  refine ev_idiv (q := 52) hne dX6_partOf_51 rfl ?_
                  rw [pk_div ha hg (by omega)]
                  refine ev_i2l (q := 53) dX6_partOf_52 rfl ?_
                  refine ev_goto 60 dX6_partOf_53 (by decide) ?_
                  exact ev_lretE dX6_partOf_60 rfl (by unfold leastN; first | (rw [if_pos c_46, nI_l (Nat.lt_of_le_of_lt (Nat.div_le_self _ _) ha)]; done) | (rw [if_neg c_46, nI_l (Nat.lt_of_le_of_lt (Nat.div_le_self _ _) (by omega))])) rfl rfl hQ
              · exact absurd c_40 hne
            · exact absurd rfl c_17
        · have hm := Nat.mod_lt x (show 0 < y by omega)
          have e := ih (i + 1) (by omega) (x % y) y (by omega) (by omega) (by rw [Nat.gcd_comm y, ← Nat.gcd_rec, Nat.gcd_comm]; exact hgc)
          refine ev_iload (q := 10) dX6_partOf_8 rfl rfl ?_
          refine ev_bipush (q := 12) (64) dX6_partOf_10 (by decide) rfl ?_
          refine ev_icmp_ge (q := 15) 39 dX6_partOf_12 (by decide) rfl (fun c_12 => ?_) (fun c_12 => ?_)
          · exact absurd ((nI_leI (a := 64) (by omega) (by omega)).mp c_12) (by omega)
          · refine ev_iload (q := 17) dX6_partOf_15 rfl rfl ?_
            refine ev_if_eq (q := 20) 39 dX6_partOf_17 (by decide) rfl (fun c_17 => ?_) (fun c_17 => ?_)
            · exact absurd c_17 (nI_ne0 (by omega) (by omega))
            · refine ev_iload_n (q := 21) dX6_partOf_20 rfl rfl ?_
              refine ev_iload (q := 23) dX6_partOf_21 rfl rfl ?_
              refine ev_irem (q := 24) (nI_ne0 (by omega) (by omega)) dX6_partOf_23 rfl ?_
              rw [pk_rem hx (by omega) (by omega)]
              refine ev_ist_6 (q := 26) dX6_partOf_24 rfl rfl ?_
              refine ev_iload (q := 28) dX6_partOf_26 rfl rfl ?_
              refine ev_ist_3 (q := 29) dX6_partOf_28 rfl rfl ?_
              refine ev_iload (q := 31) dX6_partOf_29 rfl rfl ?_
              refine ev_ist_4 (q := 33) dX6_partOf_31 rfl rfl ?_
              refine ev_inc_5 (q := 36) (nI (i + 1)) dX6_partOf_33 (nI_1 i) rfl rfl ?_
              refine ev_goto 8 dX6_partOf_36 (by decide) ?_
              exact e _
    intro i y x hx hy hi hgc a6
    exact key (64 - i) i (by omega) y x hx hy hgc a6
  refine ev_iload_n (q := 1) dX6_partOf_0 rfl rfl ?_
  refine ev_ist_3 (q := 2) dX6_partOf_1 rfl rfl ?_
  refine ev_iload_n (q := 3) dX6_partOf_2 rfl rfl ?_
  refine ev_ist_4 (q := 5) dX6_partOf_3 rfl rfl ?_
  refine ev_iconst (q := 6) (0) dX6_partOf_5 (by decide) rfl ?_
  refine ev_ist_5 (q := 8) dX6_partOf_6 rfl rfl ?_
  exact lp 0 b a ha (by omega) (by omega) rfl _
theorem lost_c {x : Int32} : (-1000000000000000000 : Int64) + x.toInt64 = lostL + x.toInt64 := rfl
theorem k_X6_drunk (hn : 49 ≤ n) (hk : KI I J t sl wy wi he) (hp : PdI I sg) (k part : Int32) : RnS xl xs 4 91 0 0 mX6_drunk [.ref 0, .int k, .int part] n I J X (some (.long (if inb k 0 (nI t - 1) then (if inb part 0 1 then drA I J t sl wy wi he sg (lN (leastN (cN (fun w => lbit (kpL I J t sl sg he) w && w.testBit k.toNatClampNeg) (2 ^ t)) (cN (lbit (kpL I J t sl sg he)) (2 ^ t)) part)) else lostL + (-2)) else lostL + (-1)))) n I J X := by
  intro S T Q hQ
  have h6 := hk.1.2.2.1
  have h64 := p2_le h6
  show Ev xl xs 4 91 0 0 mX6_drunk 0 [some (.ref 0), some (.int k), some (.int part), none, none, none] [] n (sysH (ov I S) (ovJ J T) X) Q
  rcases rfV_c (I := I) (J := J) (t := t) (sl := sl) (he := he) (sg := sg) (k := inb k 0 (nI t - 1)) (i := inb part 0 1) with ⟨hneg, hno⟩ | ⟨hz, hk1, hi1, hf, hn0⟩
  · have hr : lostL + (rfV I J t sl he sg (inb k 0 (nI t - 1)) (inb part 0 1)).toInt64 = (if inb k 0 (nI t - 1) then (if inb part 0 1 then drA I J t sl wy wi he sg (lN (leastN (cN (fun w => lbit (kpL I J t sl sg he) w && w.testBit k.toNatClampNeg) (2 ^ t)) (cN (lbit (kpL I J t sl sg he)) (2 ^ t)) part)) else lostL + (-2)) else lostL + (-1)) := by
      unfold rfV
      cases hk1 : inb k 0 (nI t - 1) with
      | false => rw [if_neg (by decide), if_neg (by decide)]; decide
      | true =>
        cases hi1 : inb part 0 1 with
        | false => rw [if_pos rfl, if_pos rfl, if_neg (by decide), if_neg (by decide)]; decide
        | true =>
          rw [if_pos rfl, if_pos rfl, if_pos rfl, if_pos rfl]
          unfold drA
          by_cases hf : ffP I t sg = -6
          · rw [if_pos hf, if_pos hf]
            by_cases hz : kpL I J t sl sg he = 0
            · rw [if_pos hz, (mdO_0 h64).mp hz]; show lostL + (-3 : Int32).toInt64 = lostL + (-3); decide
            · exact absurd ⟨hk1, hi1, hf, hz⟩ hno
          · rw [if_neg hf, if_neg hf]; decide
    refine ev_aload_n (q := 1) dX6_drunk_0 rfl rfl ?_
    refine ev_aload_n (q := 2) dX6_drunk_1 rfl rfl ?_
    refine ev_iload_n (q := 3) dX6_drunk_2 rfl rfl ?_
    refine ev_callV1i (q := 6) dX6_drunk_3 ca_X6_82 (k_X6_isThing hn hk _) rfl (lt_n hn (by decide)) rfl rfl (Nat.le_of_ble_eq_true rfl) (Nat.le_of_ble_eq_true rfl) (by decide) (by decide) rfl ?_
    refine ev_iload_n (q := 7) dX6_drunk_6 rfl rfl ?_
    refine ev_callS1i (q := 10) dX6_drunk_7 ca_X6_158 (c_X6_isBit _) (Nat.le_of_ble_eq_true rfl) (Nat.le_of_ble_eq_true rfl) (by decide) (by decide) rfl ?_
    refine ev_callV2iS (q := 13) dX6_drunk_10 ca_X6_161 (k_X6_refusalOf hn hk hp) rfl (lt_n hn (by decide)) rfl rfl (Nat.le_of_ble_eq_true rfl) (Nat.le_of_ble_eq_true rfl) (by decide) (by decide) rfl (fun S T => ?_)
    refine ev_ist_3 (q := 14) dX6_drunk_13 rfl rfl ?_
    refine ev_iload_n (q := 15) dX6_drunk_14 rfl rfl ?_
    refine ev_if_ge (q := 18) 25 dX6_drunk_15 (by decide) rfl (fun c_15 => ?_) (fun c_15 => ?_)
    · exact absurd hneg (by simp only [i_le, i_lt] at *; omega)
    · refine ev_ldc2 (q := 21) co_X6_289 dX6_drunk_18 rfl ?_
      refine ev_iload_n (q := 22) dX6_drunk_21 rfl rfl ?_
      refine ev_i2l (q := 23) dX6_drunk_22 rfl ?_
      refine ev_ladd (q := 24) dX6_drunk_23 rfl ?_
      exact ev_lretE dX6_drunk_24 rfl hr rfl rfl (hQ _ _)
  · rw [hk1, hi1, if_pos rfl, if_pos rfl] at hQ
    obtain ⟨K, hK, rfl⟩ := inb_nat (by omega) hk1 (by have := hk.1.2.1; omega)
    rw [nI_clamp (by omega)] at hQ
    unfold drA at hQ
    obtain ⟨v, hv⟩ : ∃ v, mdO I J t sl wy wi he sg = some v := by
      cases hx : mdO I J t sl wy wi he sg with
      | none => exact absurd ((mdO_0 h64).mpr hx) hn0
      | some v => exact ⟨v, rfl⟩
    rw [if_pos hf, hv] at hQ
    have hww : ∀ S T, _ := fun S T => k_X6_wishWorlds (xl := xl) (xs := xs) (n := n) (S := S) (T := T) (X := X) hn hk hp hf
    have hhi : ∀ w, 2 ^ t ≤ w → lbit (kpL I J t sl sg he) w = false := fun w hw => mk64_hi h64 hw
    obtain ⟨w0, hw0, hb0⟩ := kp_n0 h64 hhi hn0
    generalize kpL I J t sl sg he = Z at hQ hww hhi hb0
    have e1 : cN (lbit (Z &&& soB K)) 64 = cN (fun w => lbit Z w && w.testBit K) (2 ^ t) := by
      rw [cN_congr (q := fun w => lbit Z w && w.testBit K) (fun w hw => by rw [lb_and, soB_b K (by omega) w hw])]
      exact cN_top h64 (fun i hi => by rw [hhi i hi, Bool.false_and])
    have e2 : cN (lbit Z) 64 = cN (lbit Z) (2 ^ t) := cN_top h64 hhi
    have hl1 := cN_le (fun w => lbit Z w && w.testBit K) (2 ^ t)
    have hl2 := cN_le (lbit Z) (2 ^ t)
    have hl3 := cN_pos (lbit Z) (2 ^ t) w0 hw0 hb0
    refine ev_aload_n (q := 1) dX6_drunk_0 rfl rfl ?_
    refine ev_aload_n (q := 2) dX6_drunk_1 rfl rfl ?_
    refine ev_iload_n (q := 3) dX6_drunk_2 rfl rfl ?_
    refine ev_callV1i (q := 6) dX6_drunk_3 ca_X6_82 (k_X6_isThing hn hk _) rfl (lt_n hn (by decide)) rfl rfl (Nat.le_of_ble_eq_true rfl) (Nat.le_of_ble_eq_true rfl) (by decide) (by decide) rfl ?_
    refine ev_iload_n (q := 7) dX6_drunk_6 rfl rfl ?_
    refine ev_callS1i (q := 10) dX6_drunk_7 ca_X6_158 (c_X6_isBit _) (Nat.le_of_ble_eq_true rfl) (Nat.le_of_ble_eq_true rfl) (by decide) (by decide) rfl ?_
    refine ev_callV2iS (q := 13) dX6_drunk_10 ca_X6_161 (k_X6_refusalOf hn hk hp) rfl (lt_n hn (by decide)) rfl rfl (Nat.le_of_ble_eq_true rfl) (Nat.le_of_ble_eq_true rfl) (by decide) (by decide) rfl (fun S T => ?_)
    rw [hz]
    refine ev_ist_3 (q := 14) dX6_drunk_13 rfl rfl ?_
    refine ev_iload_n (q := 15) dX6_drunk_14 rfl rfl ?_
    refine ev_if_ge (q := 18) 25 dX6_drunk_15 (by decide) rfl (fun c_15 => ?_) (fun c_15 => ?_)
    · refine ev_aload_n (q := 26) dX6_drunk_25 rfl rfl ?_
      refine ev_callV0lP (q := 29) dX6_drunk_26 ca_X6_143 (hww _ _) rfl (lt_n hn (by decide)) rfl rfl (Nat.le_of_ble_eq_true rfl) (Nat.le_of_ble_eq_true rfl) (by decide) (by decide) rfl (fun S T hp_26 => ?_)
      refine ev_lst_4 (q := 31) dX6_drunk_29 rfl rfl ?_
      refine ev_lload (q := 33) dX6_drunk_31 rfl rfl ?_
      refine ev_gets (q := 36) (k := 2) dX6_drunk_33 rfl (tb_in (tt_3 177 rfl) rfl) rfl ?_
      refine ev_iload_n (q := 37) dX6_drunk_36 rfl rfl ?_
      refine ev_flald (q := 38) dX6_drunk_37 rfl (vin (by omega) (by decide)) (fz_so (by omega)) rfl ?_
      refine ev_land (q := 39) dX6_drunk_38 rfl ?_
      refine ev_callS1i (q := 42) dX6_drunk_39 ca_X6_146 (c_bitL _) (Nat.le_of_ble_eq_true rfl) (Nat.le_of_ble_eq_true rfl) (by decide) (by decide) rfl ?_
      refine ev_lload (q := 44) dX6_drunk_42 rfl rfl ?_
      refine ev_callS1i (q := 47) dX6_drunk_44 ca_X6_146 (c_bitL _) (Nat.le_of_ble_eq_true rfl) (Nat.le_of_ble_eq_true rfl) (by decide) (by decide) rfl ?_
      refine ev_iload_n (q := 48) dX6_drunk_47 rfl rfl ?_
      rw [e1, e2]
      refine ev_callS3l (q := 51) dX6_drunk_48 ca_X6_295 (c_X6_partOf (by omega) (by omega) hl3) (Nat.le_of_ble_eq_true rfl) (Nat.le_of_ble_eq_true rfl) (by decide) (by decide) rfl ?_
      exact ev_lretE dX6_drunk_51 rfl rfl rfl rfl (hQ _ _)
    · exact absurd (show (0 : Int32) ≤ 0 by decide) c_15
theorem k_X6_mean (hn : 49 ≤ n) (hk : KI I J t sl wy wi he) (hp : PdI I sg) (c part : Int32) : RnS xl xs 4 91 0 0 mX6_mean [.ref 0, .int c, .int part] n I J X (some (.long (if inb c 0 3 then (if inb part 0 1 then drA I J t sl wy wi he sg (lN (leastN (sN (fun w => if lbit (kpL I J t sl sg he) w then wn I t c.toNatClampNeg w else 0) (2 ^ t)) (cN (lbit (kpL I J t sl sg he)) (2 ^ t)) part)) else lostL + (-2)) else lostL + (-1)))) n I J X := by
  intro S T Q hQ
  have h6 := hk.1.2.2.1
  have h64 := p2_le h6
  show Ev xl xs 4 91 0 0 mX6_mean 0 [some (.ref 0), some (.int c), some (.int part), none, none, none, none, none, none] [] n (sysH (ov I S) (ovJ J T) X) Q
  rcases rfV_c (I := I) (J := J) (t := t) (sl := sl) (he := he) (sg := sg) (k := inb c 0 3) (i := inb part 0 1) with ⟨hneg, hno⟩ | ⟨hz, hk1, hi1, hf, hn0⟩
  · have hr : lostL + (rfV I J t sl he sg (inb c 0 3) (inb part 0 1)).toInt64 = (if inb c 0 3 then (if inb part 0 1 then drA I J t sl wy wi he sg (lN (leastN (sN (fun w => if lbit (kpL I J t sl sg he) w then wn I t c.toNatClampNeg w else 0) (2 ^ t)) (cN (lbit (kpL I J t sl sg he)) (2 ^ t)) part)) else lostL + (-2)) else lostL + (-1)) := by
      unfold rfV
      cases hk1 : inb c 0 3 with
      | false => rw [if_neg (by decide), if_neg (by decide)]; decide
      | true =>
        cases hi1 : inb part 0 1 with
        | false => rw [if_pos rfl, if_pos rfl, if_neg (by decide), if_neg (by decide)]; decide
        | true =>
          rw [if_pos rfl, if_pos rfl, if_pos rfl, if_pos rfl]
          unfold drA
          by_cases hf : ffP I t sg = -6
          · rw [if_pos hf, if_pos hf]
            by_cases hz : kpL I J t sl sg he = 0
            · rw [if_pos hz, (mdO_0 h64).mp hz]; show lostL + (-3 : Int32).toInt64 = lostL + (-3); decide
            · exact absurd ⟨hk1, hi1, hf, hz⟩ hno
          · rw [if_neg hf, if_neg hf]; decide
    refine ev_aload_n (q := 1) dX6_mean_0 rfl rfl ?_
    refine ev_iload_n (q := 2) dX6_mean_1 rfl rfl ?_
    refine ev_callS1i (q := 5) dX6_mean_2 ca_X6_78 (c_X6_isCousin _) (Nat.le_of_ble_eq_true rfl) (Nat.le_of_ble_eq_true rfl) (by decide) (by decide) rfl ?_
    refine ev_iload_n (q := 6) dX6_mean_5 rfl rfl ?_
    refine ev_callS1i (q := 9) dX6_mean_6 ca_X6_158 (c_X6_isBit _) (Nat.le_of_ble_eq_true rfl) (Nat.le_of_ble_eq_true rfl) (by decide) (by decide) rfl ?_
    refine ev_callV2iS (q := 12) dX6_mean_9 ca_X6_161 (k_X6_refusalOf hn hk hp) rfl (lt_n hn (by decide)) rfl rfl (Nat.le_of_ble_eq_true rfl) (Nat.le_of_ble_eq_true rfl) (by decide) (by decide) rfl (fun S T => ?_)
    refine ev_ist_3 (q := 13) dX6_mean_12 rfl rfl ?_
    refine ev_iload_n (q := 14) dX6_mean_13 rfl rfl ?_
    refine ev_if_ge (q := 17) 24 dX6_mean_14 (by decide) rfl (fun c_14 => ?_) (fun c_14 => ?_)
    · exact absurd hneg (by simp only [i_le, i_lt] at *; omega)
    · refine ev_ldc2 (q := 20) co_X6_289 dX6_mean_17 rfl ?_
      refine ev_iload_n (q := 21) dX6_mean_20 rfl rfl ?_
      refine ev_i2l (q := 22) dX6_mean_21 rfl ?_
      refine ev_ladd (q := 23) dX6_mean_22 rfl ?_
      exact ev_lretE dX6_mean_23 rfl hr rfl rfl (hQ _ _)
  · rw [hk1, hi1, if_pos rfl, if_pos rfl] at hQ
    obtain ⟨C, -, hC3, rfl⟩ := inb_lo (lo := 0) (hi := 3) (by decide) hk1 (by decide)
    rw [nI_clamp (by omega)] at hQ
    unfold drA at hQ
    obtain ⟨v, hv⟩ : ∃ v, mdO I J t sl wy wi he sg = some v := by
      cases hx : mdO I J t sl wy wi he sg with
      | none => exact absurd ((mdO_0 h64).mpr hx) hn0
      | some v => exact ⟨v, rfl⟩
    rw [if_pos hf, hv] at hQ
    have hww : ∀ S T, _ := fun S T => k_X6_wishWorlds (xl := xl) (xs := xs) (n := n) (S := S) (T := T) (X := X) hn hk hp hf
    have hhi : ∀ w, 2 ^ t ≤ w → lbit (kpL I J t sl sg he) w = false := fun w hw => mk64_hi h64 hw
    obtain ⟨w0, hw0, hb0⟩ := kp_n0 h64 hhi hn0
    have hwn : ∀ w, wtF I t C w + 1000 = nI (wn I t C w) ∧ wn I t C w ≤ 2000 := fun w => wn_ok hk (by omega) w
    generalize kpL I J t sl sg he = Z at hQ hww hhi hb0
    have e2 : cN (lbit Z) 64 = cN (lbit Z) (2 ^ t) := cN_top h64 hhi
    have hl2 := cN_le (lbit Z) (2 ^ t)
    have hl3 := cN_pos (lbit Z) (2 ^ t) w0 hw0 hb0
    have es : mS (fun k => I 2 (6 * C + k)) (1000 * nI (cN (lbit Z) 64)) (fun i => cN (fun w => lbit Z w && w.testBit i) 64) 6 = nI (sN (fun w => if lbit Z w then wn I t C w else 0) (2 ^ t)) := by
      rw [mS_sum, ← sN_flat h64 (fun i h1 _ => by rw [hhi i h1]; rfl)]
      refine upto_sN (fun w hw => ?_)
      cases hb : lbit Z w with
      | false => rfl
      | true =>
        rw [if_pos rfl, if_pos rfl, ← (hwn w).1, wtK hk (by omega)]
        by_cases h2 : w < 2 ^ t
        · exact h2
        · have := hhi w (by omega); rw [hb] at this; cases this
    have hsl : sN (fun w => if lbit Z w then wn I t C w else 0) (2 ^ t) ≤ 2 ^ t * 2000 := sN_le _ 2000 (fun k => by split; (exact (hwn k).2); omega) _
    have ec : ∀ i, i < 6 → cN (lbit (Z &&& soB i)) 64 = cN (fun w => lbit Z w && w.testBit i) 64 := fun i hi => cN_congr (fun w hw => by rw [lb_and, soB_b i hi w hw])
    have lp : ∀ j i, i + j = 6 → ∀ S T a3, Ev xl xs 4 91 0 0 mX6_mean 48 [some (.ref 0), some (.int (nI C)), some (.int part), a3, some (.long Z), none, some (.int (nI (cN (lbit Z) 64))), some (.int (mS (fun k => I 2 (6 * C + k)) (1000 * nI (cN (lbit Z) 64)) (fun i => cN (fun w => lbit Z w && w.testBit i) 64) i)), some (.int (nI i))] [] n (sysH (ov I S) (ovJ J T) X) Q := by
      intro j
      induction j using Nat.strongRecOn with
      | _ j ih =>
        intro i hi S T a3
        have e : ∀ h1, _ := fun (h1 : j - 1 < j) => ih (j - 1) h1 (i + 1)
        by_cases hi6 : 6 ≤ i
        · have hi6 : i = 6 := by omega
          subst hi6
          refine ev_iload (q := 50) dX6_mean_48 rfl rfl ?_
          refine ev_bipush (q := 52) (6) dX6_mean_50 (by decide) rfl ?_
          refine ev_icmp_ge (q := 55) 94 dX6_mean_52 (by decide) rfl (fun c_52 => ?_) (fun c_52 => ?_)
          · refine ev_iload (q := 96) dX6_mean_94 rfl rfl ?_
            refine ev_iload (q := 98) dX6_mean_96 rfl rfl ?_
            refine ev_iload_n (q := 99) dX6_mean_98 rfl rfl ?_
            rw [es, e2]
            refine ev_callS3l (q := 102) dX6_mean_99 ca_X6_295 (c_X6_partOf (by omega) (by omega) hl3) (Nat.le_of_ble_eq_true rfl) (Nat.le_of_ble_eq_true rfl) (by decide) (by decide) rfl ?_
            exact ev_lretE dX6_mean_102 rfl rfl rfl rfl (hQ _ _)
          · exact absurd (show (6 : Int32) ≤ nI 6 by decide) c_52
        · refine ev_iload (q := 50) dX6_mean_48 rfl rfl ?_
          refine ev_bipush (q := 52) (6) dX6_mean_50 (by decide) rfl ?_
          refine ev_icmp_ge (q := 55) 94 dX6_mean_52 (by decide) rfl (fun c_52 => ?_) (fun c_52 => ?_)
          · exact absurd ((nI_leI (a := 6) (by omega) (by omega)).mp c_52) hi6
          · refine ev_iload (q := 57) dX6_mean_55 rfl rfl ?_
            refine ev_aload_n (q := 58) dX6_mean_57 rfl rfl ?_
            refine ev_get (q := 61) dX6_mean_58 fr_X6_10 rfl (lt_n hn (by decide)) rfl rfl ?_
            refine ev_get (q := 64) dX6_mean_61 fr_X6_85 rfl (lt_n hn (by decide)) rfl rfl ?_
            refine ev_iload_n (q := 65) dX6_mean_64 rfl rfl ?_
            refine ev_bipush (q := 67) (6) dX6_mean_65 (by decide) rfl ?_
            refine ev_imul (q := 68) dX6_mean_67 rfl ?_
            refine ev_iload (q := 70) dX6_mean_68 rfl rfl ?_
            refine ev_iadd (q := 71) dX6_mean_70 rfl ?_
            refine ev_iaS (q := 72) (6 * C + i) dX6_mean_71 (by rw [show (6 : Int32) = nI 6 from rfl, pk_mul, nI_add, Nat.mul_comm]) rfl (by omega) (lt_n hn (by decide)) rfl ?_
            refine ev_lload (q := 74) dX6_mean_72 rfl rfl ?_
            refine ev_gets (q := 77) (k := 2) dX6_mean_74 rfl (tb_in (tt_3 177 rfl) rfl) rfl ?_
            refine ev_iload (q := 79) dX6_mean_77 rfl rfl ?_
            refine ev_flald (q := 80) dX6_mean_79 rfl (vin (by omega) (by decide)) (fz_so (by omega)) rfl ?_
            refine ev_land (q := 81) dX6_mean_80 rfl ?_
            refine ev_callS1i (q := 84) dX6_mean_81 ca_X6_146 (c_bitL _) (Nat.le_of_ble_eq_true rfl) (Nat.le_of_ble_eq_true rfl) (by decide) (by decide) rfl ?_
            rw [ec i (by omega)]
            refine ev_imul (q := 85) dX6_mean_84 rfl ?_
            refine ev_iadd (q := 86) dX6_mean_85 rfl ?_
            refine ev_ist_7 (q := 88) dX6_mean_86 rfl rfl ?_
            refine ev_inc_8 (q := 91) (nI (i + 1)) dX6_mean_88 (nI_1 i) rfl rfl ?_
            refine ev_goto 48 dX6_mean_91 (by decide) ?_
            exact e (by omega) (by omega) _ _ _
    refine ev_aload_n (q := 1) dX6_mean_0 rfl rfl ?_
    refine ev_iload_n (q := 2) dX6_mean_1 rfl rfl ?_
    refine ev_callS1i (q := 5) dX6_mean_2 ca_X6_78 (c_X6_isCousin _) (Nat.le_of_ble_eq_true rfl) (Nat.le_of_ble_eq_true rfl) (by decide) (by decide) rfl ?_
    refine ev_iload_n (q := 6) dX6_mean_5 rfl rfl ?_
    refine ev_callS1i (q := 9) dX6_mean_6 ca_X6_158 (c_X6_isBit _) (Nat.le_of_ble_eq_true rfl) (Nat.le_of_ble_eq_true rfl) (by decide) (by decide) rfl ?_
    refine ev_callV2iS (q := 12) dX6_mean_9 ca_X6_161 (k_X6_refusalOf hn hk hp) rfl (lt_n hn (by decide)) rfl rfl (Nat.le_of_ble_eq_true rfl) (Nat.le_of_ble_eq_true rfl) (by decide) (by decide) rfl (fun S T => ?_)
    rw [hz]
    refine ev_ist_3 (q := 13) dX6_mean_12 rfl rfl ?_
    refine ev_iload_n (q := 14) dX6_mean_13 rfl rfl ?_
    refine ev_if_ge (q := 17) 24 dX6_mean_14 (by decide) rfl (fun c_14 => ?_) (fun c_14 => ?_)
    · refine ev_aload_n (q := 25) dX6_mean_24 rfl rfl ?_
      refine ev_callV0lP (q := 28) dX6_mean_25 ca_X6_143 (hww _ _) rfl (lt_n hn (by decide)) rfl rfl (Nat.le_of_ble_eq_true rfl) (Nat.le_of_ble_eq_true rfl) (by decide) (by decide) rfl (fun S T hp_25 => ?_)
      refine ev_lst_4 (q := 30) dX6_mean_28 rfl rfl ?_
      refine ev_lload (q := 32) dX6_mean_30 rfl rfl ?_
      refine ev_callS1i (q := 35) dX6_mean_32 ca_X6_146 (c_bitL _) (Nat.le_of_ble_eq_true rfl) (Nat.le_of_ble_eq_true rfl) (by decide) (by decide) rfl ?_
      refine ev_ist_6 (q := 37) dX6_mean_35 rfl rfl ?_
      refine ev_sipush (q := 40) (1000) dX6_mean_37 (by decide) rfl ?_
      refine ev_iload (q := 42) dX6_mean_40 rfl rfl ?_
      refine ev_imul (q := 43) dX6_mean_42 rfl ?_
      refine ev_ist_7 (q := 45) dX6_mean_43 rfl rfl ?_
      refine ev_iconst (q := 46) (0) dX6_mean_45 (by decide) rfl ?_
      refine ev_ist_8 (q := 48) dX6_mean_46 rfl rfl ?_
      exact lp 6 0 (by omega) _ _ _
    · exact absurd (show (0 : Int32) ≤ 0 by decide) c_14
end CLS7
