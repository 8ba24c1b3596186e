theorem dX5_rankFor_0 : decode cX5_rankFor 0 = .ok (.iload_n 1, 1) := by decide +kernel
theorem dX5_rankFor_1 : decode cX5_rankFor 1 = .ok (.invokestatic 37, 3) := by decide +kernel
theorem dX5_rankFor_4 : decode cX5_rankFor 4 = .ok (.sipush 1000, 3) := by decide +kernel
theorem dX5_rankFor_7 : decode cX5_rankFor 7 = .ok (.imul, 1) := by decide +kernel
theorem dX5_rankFor_8 : decode cX5_rankFor 8 = .ok (.iconst 2, 1) := by decide +kernel
theorem dX5_rankFor_9 : decode cX5_rankFor 9 = .ok (.aload_n 0, 1) := by decide +kernel
theorem dX5_rankFor_10 : decode cX5_rankFor 10 = .ok (.getfield 22, 3) := by decide +kernel
theorem dX5_rankFor_13 : decode cX5_rankFor 13 = .ok (.iload_n 1, 1) := by decide +kernel
theorem dX5_rankFor_14 : decode cX5_rankFor 14 = .ok (.iaload, 1) := by decide +kernel
theorem dX5_rankFor_15 : decode cX5_rankFor 15 = .ok (.imul, 1) := by decide +kernel
theorem dX5_rankFor_16 : decode cX5_rankFor 16 = .ok (.iadd, 1) := by decide +kernel
theorem dX5_rankFor_17 : decode cX5_rankFor 17 = .ok (.aload_n 0, 1) := by decide +kernel
theorem dX5_rankFor_18 : decode cX5_rankFor 18 = .ok (.getfield 22, 3) := by decide +kernel
theorem dX5_rankFor_21 : decode cX5_rankFor 21 = .ok (.iload_n 2, 1) := by decide +kernel
theorem dX5_rankFor_22 : decode cX5_rankFor 22 = .ok (.iaload, 1) := by decide +kernel
theorem dX5_rankFor_23 : decode cX5_rankFor 23 = .ok (.isub, 1) := by decide +kernel
theorem dX5_rankFor_24 : decode cX5_rankFor 24 = .ok (.ireturn, 1) := by decide +kernel
theorem dX2_isBetter_0 : decode cX2_isBetter 0 = .ok (.iload_n 3, 1) := by decide +kernel
theorem dX2_isBetter_1 : decode cX2_isBetter 1 = .ok (.ifCond .lt 18, 3) := by decide +kernel
theorem dX2_isBetter_4 : decode cX2_isBetter 4 = .ok (.iload_n 0, 1) := by decide +kernel
theorem dX2_isBetter_5 : decode cX2_isBetter 5 = .ok (.iload_n 2, 1) := by decide +kernel
theorem dX2_isBetter_6 : decode cX2_isBetter 6 = .ok (.if_icmp .gt 13, 3) := by decide +kernel
theorem dX2_isBetter_9 : decode cX2_isBetter 9 = .ok (.iload_n 0, 1) := by decide +kernel
theorem dX2_isBetter_10 : decode cX2_isBetter 10 = .ok (.iload_n 2, 1) := by decide +kernel
theorem dX2_isBetter_11 : decode cX2_isBetter 11 = .ok (.if_icmp .ne 12, 3) := by decide +kernel
theorem dX2_isBetter_14 : decode cX2_isBetter 14 = .ok (.iload_n 1, 1) := by decide +kernel
theorem dX2_isBetter_15 : decode cX2_isBetter 15 = .ok (.iload_n 3, 1) := by decide +kernel
theorem dX2_isBetter_16 : decode cX2_isBetter 16 = .ok (.if_icmp .ge 7, 3) := by decide +kernel
theorem dX2_isBetter_19 : decode cX2_isBetter 19 = .ok (.iconst 1, 1) := by decide +kernel
theorem dX2_isBetter_20 : decode cX2_isBetter 20 = .ok (.goto 4, 3) := by decide +kernel
theorem dX2_isBetter_23 : decode cX2_isBetter 23 = .ok (.iconst 0, 1) := by decide +kernel
theorem dX2_isBetter_24 : decode cX2_isBetter 24 = .ok (.ireturn, 1) := by decide +kernel
theorem dX2_listStirs_0 : decode cX2_listStirs 0 = .ok (.aload_n 0, 1) := by decide +kernel
theorem dX2_listStirs_1 : decode cX2_listStirs 1 = .ok (.iconst 0, 1) := by decide +kernel
theorem dX2_listStirs_2 : decode cX2_listStirs 2 = .ok (.putfield 59, 3) := by decide +kernel
theorem dX2_listStirs_5 : decode cX2_listStirs 5 = .ok (.iconst 0, 1) := by decide +kernel
theorem dX2_listStirs_6 : decode cX2_listStirs 6 = .ok (.istore_n 2, 1) := by decide +kernel
theorem dX2_listStirs_7 : decode cX2_listStirs 7 = .ok (.iload_n 2, 1) := by decide +kernel
theorem dX2_listStirs_8 : decode cX2_listStirs 8 = .ok (.aload_n 0, 1) := by decide +kernel
theorem dX2_listStirs_9 : decode cX2_listStirs 9 = .ok (.getfield 27, 3) := by decide +kernel
theorem dX2_listStirs_12 : decode cX2_listStirs 12 = .ok (.invokevirtual 35, 3) := by decide +kernel
theorem dX2_listStirs_15 : decode cX2_listStirs 15 = .ok (.if_icmp .ge 49, 3) := by decide +kernel
theorem dX2_listStirs_18 : decode cX2_listStirs 18 = .ok (.iload_n 2, 1) := by decide +kernel
theorem dX2_listStirs_19 : decode cX2_listStirs 19 = .ok (.iload_n 1, 1) := by decide +kernel
theorem dX2_listStirs_20 : decode cX2_listStirs 20 = .ok (.iand, 1) := by decide +kernel
theorem dX2_listStirs_21 : decode cX2_listStirs 21 = .ok (.ifCond .ne 37, 3) := by decide +kernel
theorem dX2_listStirs_24 : decode cX2_listStirs 24 = .ok (.iload_n 2, 1) := by decide +kernel
theorem dX2_listStirs_25 : decode cX2_listStirs 25 = .ok (.invokestatic 41, 3) := by decide +kernel
theorem dX2_listStirs_28 : decode cX2_listStirs 28 = .ok (.aload_n 0, 1) := by decide +kernel
theorem dX2_listStirs_29 : decode cX2_listStirs 29 = .ok (.getfield 27, 3) := by decide +kernel
theorem dX2_listStirs_32 : decode cX2_listStirs 32 = .ok (.getfield 63, 3) := by decide +kernel
theorem dX2_listStirs_35 : decode cX2_listStirs 35 = .ok (.if_icmp .gt 23, 3) := by decide +kernel
theorem dX2_listStirs_38 : decode cX2_listStirs 38 = .ok (.aload_n 0, 1) := by decide +kernel
theorem dX2_listStirs_39 : decode cX2_listStirs 39 = .ok (.getfield 24, 3) := by decide +kernel
theorem dX2_listStirs_42 : decode cX2_listStirs 42 = .ok (.aload_n 0, 1) := by decide +kernel
theorem dX2_listStirs_43 : decode cX2_listStirs 43 = .ok (.getfield 59, 3) := by decide +kernel
theorem dX2_listStirs_46 : decode cX2_listStirs 46 = .ok (.iload_n 2, 1) := by decide +kernel
theorem dX2_listStirs_47 : decode cX2_listStirs 47 = .ok (.iastore, 1) := by decide +kernel
theorem dX2_listStirs_48 : decode cX2_listStirs 48 = .ok (.aload_n 0, 1) := by decide +kernel
theorem dX2_listStirs_49 : decode cX2_listStirs 49 = .ok (.dup, 1) := by decide +kernel
theorem dX2_listStirs_50 : decode cX2_listStirs 50 = .ok (.getfield 59, 3) := by decide +kernel
theorem dX2_listStirs_53 : decode cX2_listStirs 53 = .ok (.iconst 1, 1) := by decide +kernel
theorem dX2_listStirs_54 : decode cX2_listStirs 54 = .ok (.iadd, 1) := by decide +kernel
theorem dX2_listStirs_55 : decode cX2_listStirs 55 = .ok (.putfield 59, 3) := by decide +kernel
theorem dX2_listStirs_58 : decode cX2_listStirs 58 = .ok (.iinc 2 1, 3) := by decide +kernel
theorem dX2_listStirs_61 : decode cX2_listStirs 61 = .ok (.goto (-54), 3) := by decide +kernel
theorem dX2_listStirs_64 : decode cX2_listStirs 64 = .ok (.return_, 1) := by decide +kernel
theorem dX2_worstNear_0 : decode cX2_worstNear 0 = .ok (.bipush (-3), 2) := by decide +kernel
theorem dX2_worstNear_2 : decode cX2_worstNear 2 = .ok (.istore_n 3, 1) := by decide +kernel
theorem dX2_worstNear_3 : decode cX2_worstNear 3 = .ok (.iconst 0, 1) := by decide +kernel
theorem dX2_worstNear_4 : decode cX2_worstNear 4 = .ok (.istore 4, 2) := by decide +kernel
theorem dX2_worstNear_6 : decode cX2_worstNear 6 = .ok (.iload 4, 2) := by decide +kernel
theorem dX2_worstNear_8 : decode cX2_worstNear 8 = .ok (.aload_n 0, 1) := by decide +kernel
theorem dX2_worstNear_9 : decode cX2_worstNear 9 = .ok (.getfield 59, 3) := by decide +kernel
theorem dX2_worstNear_12 : decode cX2_worstNear 12 = .ok (.if_icmp .ge 70, 3) := by decide +kernel
theorem dX2_worstNear_15 : decode cX2_worstNear 15 = .ok (.iload_n 1, 1) := by decide +kernel
theorem dX2_worstNear_16 : decode cX2_worstNear 16 = .ok (.aload_n 0, 1) := by decide +kernel
theorem dX2_worstNear_17 : decode cX2_worstNear 17 = .ok (.getfield 24, 3) := by decide +kernel
theorem dX2_worstNear_20 : decode cX2_worstNear 20 = .ok (.iload 4, 2) := by decide +kernel
theorem dX2_worstNear_22 : decode cX2_worstNear 22 = .ok (.iaload, 1) := by decide +kernel
theorem dX2_worstNear_23 : decode cX2_worstNear 23 = .ok (.ixor, 1) := by decide +kernel
theorem dX2_worstNear_24 : decode cX2_worstNear 24 = .ok (.istore 5, 2) := by decide +kernel
theorem dX2_worstNear_26 : decode cX2_worstNear 26 = .ok (.aload_n 0, 1) := by decide +kernel
theorem dX2_worstNear_27 : decode cX2_worstNear 27 = .ok (.getfield 27, 3) := by decide +kernel
theorem dX2_worstNear_30 : decode cX2_worstNear 30 = .ok (.getfield 80, 3) := by decide +kernel
theorem dX2_worstNear_33 : decode cX2_worstNear 33 = .ok (.iload 5, 2) := by decide +kernel
theorem dX2_worstNear_35 : decode cX2_worstNear 35 = .ok (.lushr, 1) := by decide +kernel
theorem dX2_worstNear_36 : decode cX2_worstNear 36 = .ok (.lconst 1, 1) := by decide +kernel
theorem dX2_worstNear_37 : decode cX2_worstNear 37 = .ok (.land, 1) := by decide +kernel
theorem dX2_worstNear_38 : decode cX2_worstNear 38 = .ok (.lconst 0, 1) := by decide +kernel
theorem dX2_worstNear_39 : decode cX2_worstNear 39 = .ok (.lcmp, 1) := by decide +kernel
theorem dX2_worstNear_40 : decode cX2_worstNear 40 = .ok (.ifCond .eq 36, 3) := by decide +kernel
theorem dX2_worstNear_43 : decode cX2_worstNear 43 = .ok (.iload_n 3, 1) := by decide +kernel
theorem dX2_worstNear_44 : decode cX2_worstNear 44 = .ok (.ifCond .lt 29, 3) := by decide +kernel
theorem dX2_worstNear_47 : decode cX2_worstNear 47 = .ok (.aload_n 2, 1) := by decide +kernel
theorem dX2_worstNear_48 : decode cX2_worstNear 48 = .ok (.iload 5, 2) := by decide +kernel
theorem dX2_worstNear_50 : decode cX2_worstNear 50 = .ok (.iaload, 1) := by decide +kernel
theorem dX2_worstNear_51 : decode cX2_worstNear 51 = .ok (.aload_n 2, 1) := by decide +kernel
theorem dX2_worstNear_52 : decode cX2_worstNear 52 = .ok (.iload_n 3, 1) := by decide +kernel
theorem dX2_worstNear_53 : decode cX2_worstNear 53 = .ok (.iaload, 1) := by decide +kernel
theorem dX2_worstNear_54 : decode cX2_worstNear 54 = .ok (.if_icmp .lt 19, 3) := by decide +kernel
theorem dX2_worstNear_57 : decode cX2_worstNear 57 = .ok (.aload_n 2, 1) := by decide +kernel
theorem dX2_worstNear_58 : decode cX2_worstNear 58 = .ok (.iload 5, 2) := by decide +kernel
theorem dX2_worstNear_60 : decode cX2_worstNear 60 = .ok (.iaload, 1) := by decide +kernel
theorem dX2_worstNear_61 : decode cX2_worstNear 61 = .ok (.aload_n 2, 1) := by decide +kernel
theorem dX2_worstNear_62 : decode cX2_worstNear 62 = .ok (.iload_n 3, 1) := by decide +kernel
theorem dX2_worstNear_63 : decode cX2_worstNear 63 = .ok (.iaload, 1) := by decide +kernel
theorem dX2_worstNear_64 : decode cX2_worstNear 64 = .ok (.if_icmp .ne 12, 3) := by decide +kernel
theorem dX2_worstNear_67 : decode cX2_worstNear 67 = .ok (.iload 5, 2) := by decide +kernel
theorem dX2_worstNear_69 : decode cX2_worstNear 69 = .ok (.iload_n 3, 1) := by decide +kernel
theorem dX2_worstNear_70 : decode cX2_worstNear 70 = .ok (.if_icmp .ge 6, 3) := by decide +kernel
theorem dX2_worstNear_73 : decode cX2_worstNear 73 = .ok (.iload 5, 2) := by decide +kernel
theorem dX2_worstNear_75 : decode cX2_worstNear 75 = .ok (.istore_n 3, 1) := by decide +kernel
theorem dX2_worstNear_76 : decode cX2_worstNear 76 = .ok (.iinc 4 1, 3) := by decide +kernel
theorem dX2_worstNear_79 : decode cX2_worstNear 79 = .ok (.goto (-73), 3) := by decide +kernel
theorem dX2_worstNear_82 : decode cX2_worstNear 82 = .ok (.iload_n 3, 1) := by decide +kernel
theorem dX2_worstNear_83 : decode cX2_worstNear 83 = .ok (.ireturn, 1) := by decide +kernel
theorem dX2_takePart_0 : decode cX2_takePart 0 = .ok (.aload_n 0, 1) := by decide +kernel
theorem dX2_takePart_1 : decode cX2_takePart 1 = .ok (.getfield 18, 3) := by decide +kernel
theorem dX2_takePart_4 : decode cX2_takePart 4 = .ok (.iload_n 2, 1) := by decide +kernel
theorem dX2_takePart_5 : decode cX2_takePart 5 = .ok (.iaload, 1) := by decide +kernel
theorem dX2_takePart_6 : decode cX2_takePart 6 = .ok (.istore 4, 2) := by decide +kernel
theorem dX2_takePart_8 : decode cX2_takePart 8 = .ok (.aload_n 0, 1) := by decide +kernel
theorem dX2_takePart_9 : decode cX2_takePart 9 = .ok (.getfield 21, 3) := by decide +kernel
theorem dX2_takePart_12 : decode cX2_takePart 12 = .ok (.iload_n 2, 1) := by decide +kernel
theorem dX2_takePart_13 : decode cX2_takePart 13 = .ok (.iaload, 1) := by decide +kernel
theorem dX2_takePart_14 : decode cX2_takePart 14 = .ok (.istore 5, 2) := by decide +kernel
theorem dX2_takePart_16 : decode cX2_takePart 16 = .ok (.iload 4, 2) := by decide +kernel
theorem dX2_takePart_18 : decode cX2_takePart 18 = .ok (.ifCond .lt 45, 3) := by decide +kernel
theorem dX2_takePart_21 : decode cX2_takePart 21 = .ok (.aload_n 3, 1) := by decide +kernel
theorem dX2_takePart_22 : decode cX2_takePart 22 = .ok (.iload 5, 2) := by decide +kernel
theorem dX2_takePart_24 : decode cX2_takePart 24 = .ok (.iaload, 1) := by decide +kernel
theorem dX2_takePart_25 : decode cX2_takePart 25 = .ok (.iload 4, 2) := by decide +kernel
theorem dX2_takePart_27 : decode cX2_takePart 27 = .ok (.aload_n 3, 1) := by decide +kernel
theorem dX2_takePart_28 : decode cX2_takePart 28 = .ok (.aload_n 0, 1) := by decide +kernel
theorem dX2_takePart_29 : decode cX2_takePart 29 = .ok (.getfield 15, 3) := by decide +kernel
theorem dX2_takePart_32 : decode cX2_takePart 32 = .ok (.iload_n 1, 1) := by decide +kernel
theorem dX2_takePart_33 : decode cX2_takePart 33 = .ok (.iaload, 1) := by decide +kernel
theorem dX2_takePart_34 : decode cX2_takePart 34 = .ok (.iaload, 1) := by decide +kernel
theorem dX2_takePart_35 : decode cX2_takePart 35 = .ok (.aload_n 0, 1) := by decide +kernel
theorem dX2_takePart_36 : decode cX2_takePart 36 = .ok (.getfield 9, 3) := by decide +kernel
theorem dX2_takePart_39 : decode cX2_takePart 39 = .ok (.iload_n 1, 1) := by decide +kernel
theorem dX2_takePart_40 : decode cX2_takePart 40 = .ok (.iaload, 1) := by decide +kernel
theorem dX2_takePart_41 : decode cX2_takePart 41 = .ok (.invokestatic 76, 3) := by decide +kernel
theorem dX2_takePart_44 : decode cX2_takePart 44 = .ok (.ifCond .eq 19, 3) := by decide +kernel
theorem dX2_takePart_47 : decode cX2_takePart 47 = .ok (.aload_n 0, 1) := by decide +kernel
theorem dX2_takePart_48 : decode cX2_takePart 48 = .ok (.getfield 9, 3) := by decide +kernel
theorem dX2_takePart_51 : decode cX2_takePart 51 = .ok (.iload_n 1, 1) := by decide +kernel
theorem dX2_takePart_52 : decode cX2_takePart 52 = .ok (.iload 4, 2) := by decide +kernel
theorem dX2_takePart_54 : decode cX2_takePart 54 = .ok (.iastore, 1) := by decide +kernel
theorem dX2_takePart_55 : decode cX2_takePart 55 = .ok (.aload_n 0, 1) := by decide +kernel
theorem dX2_takePart_56 : decode cX2_takePart 56 = .ok (.getfield 15, 3) := by decide +kernel
theorem dX2_takePart_59 : decode cX2_takePart 59 = .ok (.iload_n 1, 1) := by decide +kernel
theorem dX2_takePart_60 : decode cX2_takePart 60 = .ok (.iload 5, 2) := by decide +kernel
theorem dX2_takePart_62 : decode cX2_takePart 62 = .ok (.iastore, 1) := by decide +kernel
theorem dX2_takePart_63 : decode cX2_takePart 63 = .ok (.return_, 1) := by decide +kernel
def PW (I : Nat → Nat → Int32) : Prop := ∀ w, w < 64 → ∃ x, x < 64 ∧ I 28 w = nI x
theorem KI_mono {I I' : Nat → Nat → Int32} {J : Nat → Nat → Int64} {t sl wy wi he : Nat} (h : KI I J t sl wy wi he) (e : ∀ p, p ≠ 28 → I' p = I p) : KI I' J t sl wy wi he := by
  unfold KI MI at *
  simp only [e 33 (by decide), e 1 (by decide), e 2 (by decide), e 34 (by decide), e 3 (by decide), e 35 (by decide), e 4 (by decide), e 36 (by decide)]
  exact h
theorem TOK_mono {I I' : Nat → Nat → Int32} {J : Nat → Nat → Int64} {t : Nat} (h : TOK I J t) (e : ∀ p, p ≠ 28 → I' p = I p) : TOK I' J t := by
  unfold TOK at *
  simp only [e 16 (by decide), e 17 (by decide), e 18 (by decide), e 20 (by decide)]
  exact h
theorem isB_f {v r w q : Int32} (h1 : ¬ q < 0) (h2 : ¬ w < v) (h3 : ¬ v = w ∨ ¬ r < q) : isB v r w q = false := by
  cases hx : isB v r w q with
  | false => rfl
  | true =>
    rcases isB_t.mp hx with g | g | ⟨g, g2⟩
    · exact absurd g h1
    · exact absurd g h2
    · rcases h3 with c | c
      · exact absurd g c
      · exact absurd g2 c
def STq (S : Nat → Nat → Int32) (t sl sd D c : Nat) : Prop := c ≤ D ∧ S 24 7 = nI c ∧ (∀ k, k < c → ∃ d, d < D ∧ S 29 k = nI d ∧ d &&& sd = 0 ∧ pop 6 d ≤ sl) ∧ ∀ d, d < D → d &&& sd = 0 → pop 6 d ≤ sl → ∃ k, k < c ∧ S 29 k = nI d
theorem STq_no {S : Nat → Nat → Int32} {t sl sd D c : Nat} (h : STq S t sl sd D c) (hn : ¬ (D &&& sd = 0 ∧ pop 6 D ≤ sl)) : STq S t sl sd (D + 1) c := by
  obtain ⟨h1, h2, h3, h4⟩ := h
  refine ⟨by omega, h2, fun k hk => ?_, fun d hd g1 g2 => ?_⟩
  · obtain ⟨d, a, b⟩ := h3 k hk
    exact ⟨d, by omega, b⟩
  · by_cases e : d = D
    · subst e; exact absurd ⟨g1, g2⟩ hn
    · exact h4 d (by omega) g1 g2
theorem STq_yes {S : Nat → Nat → Int32} {t sl sd D c : Nat} (h : STq S t sl sd D c) (hn : D &&& sd = 0 ∧ pop 6 D ≤ sl) : STq (wr (wr S 29 c (nI D)) 24 7 (nI (c + 1))) t sl sd (D + 1) (c + 1) := by
  obtain ⟨h1, h2, h3, h4⟩ := h
  have e1 : ∀ k, k ≠ c → wr (wr S 29 c (nI D)) 24 7 (nI (c + 1)) 29 k = S 29 k := fun k hk => by show upd (S 29) c (nI D) k = S 29 k; exact pk_un hk
  have e2 : wr (wr S 29 c (nI D)) 24 7 (nI (c + 1)) 29 c = nI D := by show upd (S 29) c (nI D) c = nI D; exact pk_us
  refine ⟨by omega, rfl, fun k hk => ?_, fun d hd g1 g2 => ?_⟩
  · by_cases e : k = c
    · rw [e, e2]; exact ⟨D, by omega, rfl, hn.1, hn.2⟩
    · rw [e1 k e]
      obtain ⟨d, a, b⟩ := h3 k (by omega)
      exact ⟨d, by omega, b⟩
  · by_cases e : d = D
    · exact ⟨c, by omega, by rw [e2, e]⟩
    · obtain ⟨k, a, b⟩ := h4 d (by omega) g1 g2
      exact ⟨k, by omega, by rw [e1 k (by omega)]; exact b⟩
def WnC (law : Int64) (f g : Nat → Int32) (aim k : Nat) : Option Nat → Prop
  | none => ∀ i d, i < k → d < 64 → g i = nI d → lbit law (aim ^^^ d) = false
  | some w => w < 64 ∧ (∃ i d, i < k ∧ d < 64 ∧ g i = nI d ∧ w = aim ^^^ d) ∧ lbit law w = true ∧ ∀ i d, i < k → d < 64 → g i = nI d → lbit law (aim ^^^ d) = true → f w < f (aim ^^^ d) ∨ (f w = f (aim ^^^ d) ∧ w ≤ aim ^^^ d)
theorem WnC_no {law : Int64} {f g : Nat → Int32} {aim k d : Nat} {o : Option Nat} (h : WnC law f g aim k o) (hd : d < 64) (hg : g k = nI d) (hb : lbit law (aim ^^^ d) = false) : WnC law f g aim (k + 1) o := by
  have hh : ∀ i e, i < k + 1 → e < 64 → g i = nI e → lbit law (aim ^^^ e) = true → i < k := fun i e hi he h1 h2 => by
    by_cases c : i = k
    · rw [c, hg] at h1
      have := (nI_eq (by omega) (by omega)).mp h1
      rw [← this, hb] at h2; cases h2
    · omega
  cases o with
  | none =>
    intro i e hi he h1
    cases hx : lbit law (aim ^^^ e) with
    | false => rfl
    | true => have := h i e (hh i e hi he h1 hx) he h1; rw [hx] at this; cases this
  | some w =>
    obtain ⟨h1, ⟨i, e, h2, h3⟩, h4, h5⟩ := h
    exact ⟨h1, ⟨i, e, by omega, h3⟩, h4, fun i e hi he g1 g2 => h5 i e (hh i e hi he g1 g2) he g1 g2⟩
theorem WnC_put {law : Int64} {f g : Nat → Int32} {aim k d : Nat} {o : Option Nat} (h : WnC law f g aim k o) (hd : d < 64) (ha : aim < 64) (hg : g k = nI d) (hb : lbit law (aim ^^^ d) = true) (hc : ∀ w, o = some w → f (aim ^^^ d) < f w ∨ (f (aim ^^^ d) = f w ∧ aim ^^^ d < w)) : WnC law f g aim (k + 1) (some (aim ^^^ d)) := by
  refine ⟨Nat.xor_lt_two_pow (n := 6) ha hd, ⟨k, d, by omega, hd, hg, rfl⟩, hb, fun i e hi he h1 h2 => ?_⟩
  by_cases c : i = k
  · rw [c, hg] at h1
    have := (nI_eq (by omega) (by omega)).mp h1
    rw [this]; exact Or.inr ⟨rfl, Nat.le_refl _⟩
  · cases o with
    | none => have := h i e (by omega) he h1; rw [h2] at this; cases this
    | some w =>
      obtain ⟨-, -, -, h5⟩ := h
      rcases hc w rfl with g1 | ⟨g1, g2⟩
      · rcases h5 i e (by omega) he h1 h2 with g3 | ⟨g3, g4⟩
        · exact Or.inl (i_trans g1 g3)
        · exact Or.inl (g3 ▸ g1)
      · rcases h5 i e (by omega) he h1 h2 with g3 | ⟨g3, g4⟩
        · rw [g1]; exact Or.inl g3
        · exact Or.inr ⟨g1.trans g3, by omega⟩
theorem WnC_keep {law : Int64} {f g : Nat → Int32} {aim k d w : Nat} (h : WnC law f g aim k (some w)) (hd : d < 64) (hg : g k = nI d) (h1 : ¬ f (aim ^^^ d) < f w) (h2 : ¬ f (aim ^^^ d) = f w ∨ ¬ aim ^^^ d < w) : WnC law f g aim (k + 1) (some w) := by
  obtain ⟨a1, ⟨i, e, a2, a3⟩, a4, a5⟩ := h
  refine ⟨a1, ⟨i, e, by omega, a3⟩, a4, fun i e hi he g1 g2 => ?_⟩
  by_cases c : i = k
  · rw [c, hg] at g1
    have := (nI_eq (by omega) (by omega)).mp g1
    rw [← this]
    rcases i_tri (f w) (f (aim ^^^ d)) with x | x | x
    · exact Or.inl x
    · refine Or.inr ⟨x, ?_⟩
      rcases h2 with y | y
      · exact absurd x.symm y
      · omega
    · exact absurd x h1
  · exact a5 i e (by omega) he g1 g2
theorem xx_c (a d : Nat) : a ^^^ (d ^^^ a) = d := by rw [Nat.xor_comm d a, ← Nat.xor_assoc, Nat.xor_self, Nat.zero_xor]
theorem xx_d (a d : Nat) : (a ^^^ d) ^^^ a = d := by rw [Nat.xor_comm a d, Nat.xor_assoc, Nat.xor_self, Nat.xor_zero]
theorem Wn_ls {S : Nat → Nat → Int32} {J : Nat → Nat → Int64} {t sl sd aim c : Nat} {f : Nat → Int32} {o : Option Nat} (h6 : t ≤ 6) (ha : aim < 2 ^ t) (hs : STq S t sl sd (2 ^ t) c) (h : WnC (J 33 8) f (S 29) aim c o) : o = lsO f (wZ J t sl sd aim) := by
  have h64 := p2_le h6
  have hbit : ∀ v, lbit (wZ J t sl sd aim) v = (decide (v < 2 ^ t) && (lbit (J 33 8) v && (decide ((v ^^^ aim) &&& sd = 0) && decide (pop 6 (v ^^^ aim) ≤ sl)))) := fun v => by unfold wZ; rw [mk64_bit _ _ h64]
  obtain ⟨s1, s2, s3, s4⟩ := hs
  have get : ∀ v, lbit (wZ J t sl sd aim) v = true → lbit (J 33 8) v = true ∧ ∃ i d, i < c ∧ d < 64 ∧ S 29 i = nI d ∧ v = aim ^^^ d := by
    intro v hv
    rw [hbit v] at hv
    simp only [Bool.and_eq_true, decide_eq_true_eq] at hv
    obtain ⟨v1, v2, v3, v4⟩ := hv
    have hx : v ^^^ aim < 2 ^ t := Nat.xor_lt_two_pow v1 ha
    obtain ⟨k, k1, k2⟩ := s4 (v ^^^ aim) hx v3 v4
    exact ⟨v2, k, v ^^^ aim, k1, by omega, k2, (xx_c aim v).symm⟩
  refine LsC_eq (sc := f) (Z := wZ J t sl sd aim) (k := 64) ?_ lsO_c
  cases o with
  | none =>
    intro v hv
    cases hx : lbit (wZ J t sl sd aim) v with
    | false => rfl
    | true =>
      obtain ⟨g1, i, d, g2, g3, g4, g5⟩ := get v hx
      have := h i d g2 g3 g4
      rw [← g5, g1] at this; cases this
  | some w =>
    obtain ⟨w1, ⟨i, d, w2, w3, w4, w5⟩, w6, w7⟩ := h
    obtain ⟨d2, e1, e2, e3, e4⟩ := s3 i w2
    have ed : d = d2 := (nI_eq (by omega) (by omega)).mp (w4.symm.trans e2)
    subst ed
    refine ⟨w1, ?_, fun v hv hl => ?_⟩
    · rw [hbit w, w6]
      have q1 : w ^^^ aim = d := by rw [w5]; exact xx_d aim d
      have q2 : w < 2 ^ t := by rw [w5]; exact Nat.xor_lt_two_pow ha e1
      rw [q1]
      simp [q2, e3, e4]
    · obtain ⟨g1, i2, d3, g2, g3, g4, g5⟩ := get v hl
      have := w7 i2 d3 g2 g3 g4 (by rw [← g5]; exact g1)
      rw [← g5] at this
      exact this
section CLS14
variable {xl : Nat} {xs : Nat → Int32} {n : Nat} {h : Nat → PC} {I S : Nat → Nat → Int32} {J T : Nat → Nat → Int64} {X : Nat → Option Nat} {t sl wy wi he : Nat}
theorem k_X5_rankFor {sd so : Nat} (hn : 49 ≤ n) (h6 : t ≤ 6) (ht : TOK I J t) (hsd : sd < 2 ^ t) (hso : so < 2 ^ t) (hs : so &&& sd = so) : Rn xl xs 1 20 0 0 mX5_rankFor [.ref 16, .int (nI sd), .int (nI so)] n (sysH (ov I S) (ovJ J T) X) (some (.int (nI (rkN t (nmO t sd so))))) n (sysH (ov I S) (ovJ J T) X) := by
  intro Q hQ
  have h64 := p2_le h6
  obtain ⟨a1, a2, a3, a4⟩ := nmO_A h6 hsd hso hs
  have e : nI (pop 6 sd) * 1000 + 2 * nI (wgt t sd t) - nI (wgt t so t) = nI (rkN t (nmO t sd so)) := by
    rw [show (1000 : Int32) = nI 1000 from rfl, pk_mul, show (2 : Int32) = nI 2 from rfl, pk_mul, nI_add, pk_sub (by omega)]
    congr 1
    unfold rkN
    rw [wd_sd h6, a3]
    unfold nmO
    omega
  show Ev xl xs 1 20 0 0 mX5_rankFor 0 [some (.ref 16), some (.int (nI sd)), some (.int (nI so))] [] n (sysH (ov I S) (ovJ J T) X) Q
  refine ev_iload_n (q := 1) dX5_rankFor_0 rfl rfl ?_
  refine ev_callS1i (q := 4) dX5_rankFor_1 ca_X5_37 (c_bitI (by omega)) (Nat.le_of_ble_eq_true rfl) (Nat.le_of_ble_eq_true rfl) (by decide) (by decide) rfl ?_
  refine ev_sipush (q := 7) (1000) dX5_rankFor_4 (by decide) rfl ?_
  refine ev_imul (q := 8) dX5_rankFor_7 rfl ?_
  refine ev_iconst (q := 9) (2) dX5_rankFor_8 (by decide) rfl ?_
  refine ev_aload_n (q := 10) dX5_rankFor_9 rfl rfl ?_
  refine ev_get (q := 13) dX5_rankFor_10 fr_X5_22 rfl (lt_n hn (by decide)) rfl rfl ?_
  refine ev_iload_n (q := 14) dX5_rankFor_13 rfl rfl ?_
  refine ev_iaS (q := 15) sd dX5_rankFor_14 rfl rfl (by omega) (lt_n hn (by decide)) rfl ?_
  rw [show ov I S 20 sd = nI (wgt t sd t) from ht.2.2 sd hsd]
  refine ev_imul (q := 16) dX5_rankFor_15 rfl ?_
  refine ev_iadd (q := 17) dX5_rankFor_16 rfl ?_
  refine ev_aload_n (q := 18) dX5_rankFor_17 rfl rfl ?_
  refine ev_get (q := 21) dX5_rankFor_18 fr_X5_22 rfl (lt_n hn (by decide)) rfl rfl ?_
  refine ev_iload_n (q := 22) dX5_rankFor_21 rfl rfl ?_
  refine ev_iaS (q := 23) so dX5_rankFor_22 rfl rfl (by omega) (lt_n hn (by decide)) rfl ?_
  rw [show ov I S 20 so = nI (wgt t so t) from ht.2.2 so hso]
  refine ev_isub (q := 24) dX5_rankFor_23 rfl ?_
  exact ev_iretE dX5_rankFor_24 rfl rfl e rfl rfl hQ
theorem c_isBetter (v r w q : Int32) : Rn xl xs 0 0 0 0 mX2_isBetter [.int v, .int r, .int w, .int q] n h (some (.int (b2i (isB v r w q)))) n h := by
  intro Q hQ
  show Ev xl xs 0 0 0 0 mX2_isBetter 0 [some (.int v), some (.int r), some (.int w), some (.int q)] [] n h Q
  refine ev_iload_n (q := 1) dX2_isBetter_0 rfl rfl ?_
  refine ev_if_lt (q := 4) 19 dX2_isBetter_1 (by decide) rfl (fun c_1 => ?_) (fun c_1 => ?_)
  · have c_1 : q < 0 := c_1
    refine ev_iconst (q := 20) (1) dX2_isBetter_19 (by decide) rfl ?_
    refine ev_goto 24 dX2_isBetter_20 (by decide) ?_
    exact ev_iretE dX2_isBetter_24 rfl (nar_b2i _) (by first | (rw [isB_t.mpr (Or.inl c_1)]; rfl) | (rw [isB_t.mpr (Or.inr (Or.inl c_6))]; rfl) | (rw [isB_t.mpr (Or.inr (Or.inr ⟨c_11, c_16⟩))]; rfl) | (rw [isB_f c_1 c_6 (Or.inl c_11)]; rfl) | (rw [isB_f c_1 c_6 (Or.inr c_16)]; rfl)) rfl rfl hQ
  · have c_1 : ¬ q < 0 := c_1
    refine ev_iload_n (q := 5) dX2_isBetter_4 rfl rfl ?_
    refine ev_iload_n (q := 6) dX2_isBetter_5 rfl rfl ?_
    refine ev_icmp_gt (q := 9) 19 dX2_isBetter_6 (by decide) rfl (fun c_6 => ?_) (fun c_6 => ?_)
    · have c_6 : w < v := c_6
      refine ev_iconst (q := 20) (1) dX2_isBetter_19 (by decide) rfl ?_
      refine ev_goto 24 dX2_isBetter_20 (by decide) ?_
      exact ev_iretE dX2_isBetter_24 rfl (nar_b2i _) (by first | (rw [isB_t.mpr (Or.inl c_1)]; rfl) | (rw [isB_t.mpr (Or.inr (Or.inl c_6))]; rfl) | (rw [isB_t.mpr (Or.inr (Or.inr ⟨c_11, c_16⟩))]; rfl) | (rw [isB_f c_1 c_6 (Or.inl c_11)]; rfl) | (rw [isB_f c_1 c_6 (Or.inr c_16)]; rfl)) rfl rfl hQ
    · have c_6 : ¬ w < v := c_6
      refine ev_iload_n (q := 10) dX2_isBetter_9 rfl rfl ?_
      refine ev_iload_n (q := 11) dX2_isBetter_10 rfl rfl ?_
      refine ev_icmp_ne (q := 14) 23 dX2_isBetter_11 (by decide) rfl (fun c_11 => ?_) (fun c_11 => ?_)
      · have c_11 : ¬ v = w := c_11
        refine ev_iconst (q := 24) (0) dX2_isBetter_23 (by decide) rfl ?_
        exact ev_iretE dX2_isBetter_24 rfl (nar_b2i _) (by first | (rw [isB_t.mpr (Or.inl c_1)]; rfl) | (rw [isB_t.mpr (Or.inr (Or.inl c_6))]; rfl) | (rw [isB_t.mpr (Or.inr (Or.inr ⟨c_11, c_16⟩))]; rfl) | (rw [isB_f c_1 c_6 (Or.inl c_11)]; rfl) | (rw [isB_f c_1 c_6 (Or.inr c_16)]; rfl)) rfl rfl hQ
      · have c_11 : v = w := c_11
        refine ev_iload_n (q := 15) dX2_isBetter_14 rfl rfl ?_
        refine ev_iload_n (q := 16) dX2_isBetter_15 rfl rfl ?_
        refine ev_icmp_ge (q := 19) 23 dX2_isBetter_16 (by decide) rfl (fun c_16 => ?_) (fun c_16 => ?_)
        · have c_16 : ¬ r < q := fun g => by have c_16 : q ≤ r := c_16; simp only [i_le, i_lt] at *; omega
          refine ev_iconst (q := 24) (0) dX2_isBetter_23 (by decide) rfl ?_
          exact ev_iretE dX2_isBetter_24 rfl (nar_b2i _) (by first | (rw [isB_t.mpr (Or.inl c_1)]; rfl) | (rw [isB_t.mpr (Or.inr (Or.inl c_6))]; rfl) | (rw [isB_t.mpr (Or.inr (Or.inr ⟨c_11, c_16⟩))]; rfl) | (rw [isB_f c_1 c_6 (Or.inl c_11)]; rfl) | (rw [isB_f c_1 c_6 (Or.inr c_16)]; rfl)) rfl rfl hQ
        · have c_16 : r < q := by have c_16 : ¬ q ≤ r := c_16; simp only [i_le, i_lt] at *; omega
          refine ev_iconst (q := 20) (1) dX2_isBetter_19 (by decide) rfl ?_
          refine ev_goto 24 dX2_isBetter_20 (by decide) ?_
          exact ev_iretE dX2_isBetter_24 rfl (nar_b2i _) (by first | (rw [isB_t.mpr (Or.inl c_1)]; rfl) | (rw [isB_t.mpr (Or.inr (Or.inl c_6))]; rfl) | (rw [isB_t.mpr (Or.inr (Or.inr ⟨c_11, c_16⟩))]; rfl) | (rw [isB_f c_1 c_6 (Or.inl c_11)]; rfl) | (rw [isB_f c_1 c_6 (Or.inr c_16)]; rfl)) rfl rfl hQ
theorem k_listStirs {sd : Nat} (hn : 49 ≤ n) (hk : KI I J t sl wy wi he) : RnP xl xs 1 20 mX2_listStirs [.ref 24, .int (nI sd)] n I S J T X none (fun S' T' => T' = T ∧ (∃ c, STq S' t sl sd (2 ^ t) c) ∧ ∀ p, p ≠ 24 → p ≠ 29 → S' p = S p) := by
  intro Q hQ
  have h6 := hk.1.2.2.1
  have h64 := p2_le h6
  have hs6 := hk.1.2.2.2.2.1
  show Ev xl xs 1 20 0 0 mX2_listStirs 0 [some (.ref 24), some (.int (nI sd)), none] [] n (sysH (ov I S) (ovJ J T) X) Q
  have lp : ∀ j d, d + j = 2 ^ t → ∀ S2 c, STq S2 t sl sd d c → (∀ p, p ≠ 24 → p ≠ 29 → S2 p = S p) → Ev xl xs 1 20 0 0 mX2_listStirs 7 [some (.ref 24), some (.int (nI sd)), some (.int (nI d))] [] n (sysH (ov I S2) (ovJ J T) X) Q := by
    intro j
    induction j using Nat.strongRecOn with
    | _ j ih =>
      intro d hdj S2 c hst h0
      have e : ∀ h1, _ := fun (h1 : j - 1 < j) => ih (j - 1) h1 (d + 1)
      by_cases hd : 2 ^ t ≤ d
      · have hd : d = 2 ^ t := by omega
        subst hd
        refine ev_iload_n (q := 8) dX2_listStirs_7 rfl rfl ?_
        refine ev_aload_n (q := 9) dX2_listStirs_8 rfl rfl ?_
        refine ev_get (q := 12) dX2_listStirs_9 fr_X2_27 rfl (lt_n hn (by decide)) rfl rfl ?_
        refine ev_callV0i (q := 15) dX2_listStirs_12 ca_X2_35 (k_X4_worldCount hn hk) rfl (lt_n hn (by decide)) rfl rfl (Nat.le_of_ble_eq_true rfl) (Nat.le_of_ble_eq_true rfl) (by decide) (by decide) rfl ?_
        refine ev_icmp_ge (q := 18) 64 dX2_listStirs_15 (by decide) rfl (fun c_15 => ?_) (fun c_15 => ?_)
        · exact ev_retE dX2_listStirs_64 rfl rfl rfl (hQ _ _ ⟨rfl, ⟨c, hst⟩, h0⟩)
        · exact absurd ((nI_leI (by omega) (by omega)).mpr (Nat.le_refl _)) c_15
      · have e := e (by omega) (by omega)
        have hpl := pop_le 6 d
        have hand : d &&& sd ≤ d := Nat.and_le_left
        by_cases hA : d &&& sd = 0
        · by_cases hB : pop 6 d ≤ sl
          · have hc := hst.1
            have h24 := hst.2.1
            refine ev_iload_n (q := 8) dX2_listStirs_7 rfl rfl ?_
            refine ev_aload_n (q := 9) dX2_listStirs_8 rfl rfl ?_
            refine ev_get (q := 12) dX2_listStirs_9 fr_X2_27 rfl (lt_n hn (by decide)) rfl rfl ?_
            refine ev_callV0i (q := 15) dX2_listStirs_12 ca_X2_35 (k_X4_worldCount hn hk) rfl (lt_n hn (by decide)) rfl rfl (Nat.le_of_ble_eq_true rfl) (Nat.le_of_ble_eq_true rfl) (by decide) (by decide) rfl ?_
            refine ev_icmp_ge (q := 18) 64 dX2_listStirs_15 (by decide) rfl (fun c_15 => ?_) (fun c_15 => ?_)
            · exact absurd ((nI_leI (by omega) (by omega)).mp c_15) hd
            · refine ev_iload_n (q := 19) dX2_listStirs_18 rfl rfl ?_
              refine ev_iload_n (q := 20) dX2_listStirs_19 rfl rfl ?_
              refine ev_iand (q := 21) dX2_listStirs_20 rfl ?_
              rw [nI_and, hA]
              refine ev_if_ne (q := 24) 58 dX2_listStirs_21 (by decide) rfl (fun c_21 => ?_) (fun c_21 => ?_)
              · exact absurd rfl c_21
              · refine ev_iload_n (q := 25) dX2_listStirs_24 rfl rfl ?_
                refine ev_callS1i (q := 28) dX2_listStirs_25 ca_X2_41 (c_bitI (by omega)) (Nat.le_of_ble_eq_true rfl) (Nat.le_of_ble_eq_true rfl) (by decide) (by decide) rfl ?_
                refine ev_aload_n (q := 29) dX2_listStirs_28 rfl rfl ?_
                refine ev_get (q := 32) dX2_listStirs_29 fr_X2_27 rfl (lt_n hn (by decide)) rfl rfl ?_
                refine ev_get (q := 35) dX2_listStirs_32 fr_X2_63 rfl (lt_n hn (by decide)) rfl rfl ?_
                rw [show ov I S2 1 4 = nI sl from hk.2.1.2.2.2.2]
                refine ev_icmp_gt (q := 38) 58 dX2_listStirs_35 (by decide) rfl (fun c_35 => ?_) (fun c_35 => ?_)
                · exact absurd ((nI_ltI (by omega) (by omega)).mp c_35) (by omega)
                · refine ev_aload_n (q := 39) dX2_listStirs_38 rfl rfl ?_
                  refine ev_get (q := 42) dX2_listStirs_39 fr_X2_24 rfl (lt_n hn (by decide)) rfl rfl ?_
                  refine ev_aload_n (q := 43) dX2_listStirs_42 rfl rfl ?_
                  refine ev_get (q := 46) dX2_listStirs_43 fr_X2_59 rfl (lt_n hn (by decide)) rfl rfl ?_
                  refine ev_iload_n (q := 47) dX2_listStirs_46 rfl rfl ?_
                  first | refine ev_isK (q := 48) c dX2_listStirs_47 h24 rfl (by omega) (lt_n hn (by decide)) rfl rfl ?_ | refine ev_isR (q := 48) c dX2_listStirs_47 h24 rfl (by omega) (lt_n hn (by decide)) rfl rfl ?_
                  refine ev_aload_n (q := 49) dX2_listStirs_48 rfl rfl ?_
                  refine ev_dup (q := 50) (fun _ => rfl) dX2_listStirs_49 rfl ?_
                  refine ev_get (q := 53) dX2_listStirs_50 fr_X2_59 rfl (lt_n hn (by decide)) rfl rfl ?_
                  refine ev_iconst (q := 54) (1) dX2_listStirs_53 (by decide) rfl ?_
                  refine ev_iadd (q := 55) dX2_listStirs_54 rfl ?_
                  rw [show ov I (wr S2 29 c (nI d)) 24 7 + 1 = nI (c + 1) from by rw [show ov I (wr S2 29 c (nI d)) 24 7 = nI c from h24]; exact nI_1 c]
                  first | refine ev_putIK (q := 58) dX2_listStirs_55 fa_X2_59 rfl (by decide) (lt_n hn (by decide)) (Nat.le_of_ble_eq_true rfl) ⟨rfl, rfl⟩ rfl rfl rfl ?_ | refine ev_putIR (q := 58) dX2_listStirs_55 fa_X2_59 rfl (by decide) (lt_n hn (by decide)) (Nat.le_of_ble_eq_true rfl) ⟨rfl, rfl⟩ rfl rfl rfl ?_
                  refine ev_inc_2 (q := 61) (nI (d + 1)) dX2_listStirs_58 (nI_1 d) rfl rfl ?_
                  refine ev_goto 7 dX2_listStirs_61 (by decide) ?_
                  exact e _ _ (STq_yes hst ⟨hA, hB⟩) (fun p h1 h2 => by rw [← h0 p h1 h2]; simp [setI, h1, h2])
          · refine ev_iload_n (q := 8) dX2_listStirs_7 rfl rfl ?_
            refine ev_aload_n (q := 9) dX2_listStirs_8 rfl rfl ?_
            refine ev_get (q := 12) dX2_listStirs_9 fr_X2_27 rfl (lt_n hn (by decide)) rfl rfl ?_
            refine ev_callV0i (q := 15) dX2_listStirs_12 ca_X2_35 (k_X4_worldCount hn hk) rfl (lt_n hn (by decide)) rfl rfl (Nat.le_of_ble_eq_true rfl) (Nat.le_of_ble_eq_true rfl) (by decide) (by decide) rfl ?_
            refine ev_icmp_ge (q := 18) 64 dX2_listStirs_15 (by decide) rfl (fun c_15 => ?_) (fun c_15 => ?_)
            · exact absurd ((nI_leI (by omega) (by omega)).mp c_15) hd
            · refine ev_iload_n (q := 19) dX2_listStirs_18 rfl rfl ?_
              refine ev_iload_n (q := 20) dX2_listStirs_19 rfl rfl ?_
              refine ev_iand (q := 21) dX2_listStirs_20 rfl ?_
              rw [nI_and, hA]
              refine ev_if_ne (q := 24) 58 dX2_listStirs_21 (by decide) rfl (fun c_21 => ?_) (fun c_21 => ?_)
              · exact absurd rfl c_21
              · refine ev_iload_n (q := 25) dX2_listStirs_24 rfl rfl ?_
                refine ev_callS1i (q := 28) dX2_listStirs_25 ca_X2_41 (c_bitI (by omega)) (Nat.le_of_ble_eq_true rfl) (Nat.le_of_ble_eq_true rfl) (by decide) (by decide) rfl ?_
                refine ev_aload_n (q := 29) dX2_listStirs_28 rfl rfl ?_
                refine ev_get (q := 32) dX2_listStirs_29 fr_X2_27 rfl (lt_n hn (by decide)) rfl rfl ?_
                refine ev_get (q := 35) dX2_listStirs_32 fr_X2_63 rfl (lt_n hn (by decide)) rfl rfl ?_
                rw [show ov I S2 1 4 = nI sl from hk.2.1.2.2.2.2]
                refine ev_icmp_gt (q := 38) 58 dX2_listStirs_35 (by decide) rfl (fun c_35 => ?_) (fun c_35 => ?_)
                · refine ev_inc_2 (q := 61) (nI (d + 1)) dX2_listStirs_58 (nI_1 d) rfl rfl ?_
                  refine ev_goto 7 dX2_listStirs_61 (by decide) ?_
                  exact e _ _ (STq_no hst (fun g => hB g.2)) h0
                · exact absurd ((nI_ltI (by omega) (by omega)).mpr (by omega)) c_35
        · refine ev_iload_n (q := 8) dX2_listStirs_7 rfl rfl ?_
          refine ev_aload_n (q := 9) dX2_listStirs_8 rfl rfl ?_
          refine ev_get (q := 12) dX2_listStirs_9 fr_X2_27 rfl (lt_n hn (by decide)) rfl rfl ?_
          refine ev_callV0i (q := 15) dX2_listStirs_12 ca_X2_35 (k_X4_worldCount hn hk) rfl (lt_n hn (by decide)) rfl rfl (Nat.le_of_ble_eq_true rfl) (Nat.le_of_ble_eq_true rfl) (by decide) (by decide) rfl ?_
          refine ev_icmp_ge (q := 18) 64 dX2_listStirs_15 (by decide) rfl (fun c_15 => ?_) (fun c_15 => ?_)
          · exact absurd ((nI_leI (by omega) (by omega)).mp c_15) hd
          · refine ev_iload_n (q := 19) dX2_listStirs_18 rfl rfl ?_
            refine ev_iload_n (q := 20) dX2_listStirs_19 rfl rfl ?_
            refine ev_iand (q := 21) dX2_listStirs_20 rfl ?_
            rw [nI_and]
            refine ev_if_ne (q := 24) 58 dX2_listStirs_21 (by decide) rfl (fun c_21 => ?_) (fun c_21 => ?_)
            · refine ev_inc_2 (q := 61) (nI (d + 1)) dX2_listStirs_58 (nI_1 d) rfl rfl ?_
              refine ev_goto 7 dX2_listStirs_61 (by decide) ?_
              exact e _ _ (STq_no hst (fun g => hA g.1)) h0
            · exact absurd c_21 (nI_ne0 (by omega) (by omega))
  refine ev_aload_n (q := 1) dX2_listStirs_0 rfl rfl ?_
  refine ev_iconst (q := 2) (0) dX2_listStirs_1 (by decide) rfl ?_
  first | refine ev_putIK (q := 5) dX2_listStirs_2 fa_X2_59 rfl (by decide) (lt_n hn (by decide)) (Nat.le_of_ble_eq_true rfl) ⟨rfl, rfl⟩ rfl rfl rfl ?_ | refine ev_putIR (q := 5) dX2_listStirs_2 fa_X2_59 rfl (by decide) (lt_n hn (by decide)) (Nat.le_of_ble_eq_true rfl) ⟨rfl, rfl⟩ rfl rfl rfl ?_
  refine ev_iconst (q := 6) (0) dX2_listStirs_5 (by decide) rfl ?_
  refine ev_ist_2 (q := 7) dX2_listStirs_6 rfl rfl ?_
  exact lp (2 ^ t) 0 (by omega) _ 0 ⟨Nat.le_refl _, rfl, fun k hk => absurd hk (by omega), fun d hd => absurd hd (by omega)⟩ (fun p h1 h2 => by simp [setI, h1])
theorem k_worstNear {aim sd c : Nat} (hn : 49 ≤ n) (hk : KI I J t sl wy wi he) (ha : aim < 2 ^ t) (hst : STq S t sl sd (2 ^ t) c) : Rn xl xs 0 0 0 0 mX2_worstNear [.ref 24, .int (nI aim), .ref 31] n (sysH (ov I S) (ovJ J T) X) (some (.int (e3 (lsO (S 31) (wZ J t sl sd aim))))) n (sysH (ov I S) (ovJ J T) X) := by
  intro Q hQ
  have h6 := hk.1.2.2.1
  have h64 := p2_le h6
  have hc := hst.1
  have h24 : ov I S 24 7 = nI c := hst.2.1
  show Ev xl xs 0 0 0 0 mX2_worstNear 0 [some (.ref 24), some (.int (nI aim)), some (.ref 31), none, none, none] [] n (sysH (ov I S) (ovJ J T) X) Q
  have lp : ∀ j k, k + j = c → ∀ o, WnC (J 33 8) (S 31) (S 29) aim k o → ∀ a5, Ev xl xs 0 0 0 0 mX2_worstNear 6 [some (.ref 24), some (.int (nI aim)), some (.ref 31), some (.int (e3 o)), some (.int (nI k)), a5] [] n (sysH (ov I S) (ovJ J T) X) Q := by
    intro j
    induction j using Nat.strongRecOn with
    | _ j ih =>
      intro k hkj o ho a5
      have e : ∀ h1, _ := fun (h1 : j - 1 < j) => ih (j - 1) h1 (k + 1)
      by_cases hkc : c ≤ k
      · have hkc : k = c := by omega
        rw [hkc] at ho
        have hl := Wn_ls h6 ha hst ho
        refine ev_iload (q := 8) dX2_worstNear_6 rfl rfl ?_
        refine ev_aload_n (q := 9) dX2_worstNear_8 rfl rfl ?_
        refine ev_get (q := 12) dX2_worstNear_9 fr_X2_59 rfl (lt_n hn (by decide)) rfl rfl ?_
        rw [h24]
        refine ev_icmp_ge (q := 15) 82 dX2_worstNear_12 (by decide) rfl (fun c_12 => ?_) (fun c_12 => ?_)
        · refine ev_iload_n (q := 83) dX2_worstNear_82 rfl rfl ?_
          exact ev_iretE dX2_worstNear_83 rfl rfl (by rw [hl]) rfl rfl hQ
        · exact absurd ((nI_leI (by omega) (by omega)).mpr (by omega)) c_12
      · have e := e (by omega) (by omega)
        obtain ⟨d, hd1, hd2, hd3, hd4⟩ := hst.2.2.1 k (by omega)
        have hx : aim ^^^ d < 2 ^ t := Nat.xor_lt_two_pow ha hd1
        have lb := lb_sh (S := J 33 8) (w := aim ^^^ d) (by omega)
        cases hb : lbit (J 33 8) (aim ^^^ d) with
        | false =>
          rw [hb] at lb
          refine ev_iload (q := 8) dX2_worstNear_6 rfl rfl ?_
          refine ev_aload_n (q := 9) dX2_worstNear_8 rfl rfl ?_
          refine ev_get (q := 12) dX2_worstNear_9 fr_X2_59 rfl (lt_n hn (by decide)) rfl rfl ?_
          rw [h24]
          refine ev_icmp_ge (q := 15) 82 dX2_worstNear_12 (by decide) rfl (fun c_12 => ?_) (fun c_12 => ?_)
          · exact absurd ((nI_leI (by omega) (by omega)).mp c_12) hkc
          · refine ev_iload_n (q := 16) dX2_worstNear_15 rfl rfl ?_
            refine ev_aload_n (q := 17) dX2_worstNear_16 rfl rfl ?_
            refine ev_get (q := 20) dX2_worstNear_17 fr_X2_24 rfl (lt_n hn (by decide)) rfl rfl ?_
            refine ev_iload (q := 22) dX2_worstNear_20 rfl rfl ?_
            refine ev_iaS (q := 23) k dX2_worstNear_22 rfl rfl (by omega) (lt_n hn (by decide)) rfl ?_
            rw [show ov I S 29 k = nI d from hd2]
            refine ev_ixor (q := 24) dX2_worstNear_23 rfl ?_
            rw [nI_xor]
            refine ev_ist_5 (q := 26) dX2_worstNear_24 rfl rfl ?_
            refine ev_aload_n (q := 27) dX2_worstNear_26 rfl rfl ?_
            refine ev_get (q := 30) dX2_worstNear_27 fr_X2_27 rfl (lt_n hn (by decide)) rfl rfl ?_
            refine ev_get (q := 33) dX2_worstNear_30 fr_X2_80 rfl (lt_n hn (by decide)) rfl rfl ?_
            refine ev_iload (q := 35) dX2_worstNear_33 rfl rfl ?_
            rw [show ovJ J T 1 5 = J 33 8 from hk.2.2.1.1]
            refine ev_lushr (q := 36) dX2_worstNear_35 rfl ?_
            refine ev_lconst (q := 37) (1) dX2_worstNear_36 (by decide) rfl ?_
            refine ev_land (q := 38) dX2_worstNear_37 rfl ?_
            rw [lb]
            refine ev_lconst (q := 39) (0) dX2_worstNear_38 (by decide) rfl ?_
            refine ev_lcmp (q := 40) dX2_worstNear_39 rfl ?_
            refine ev_if_eq (q := 43) 76 dX2_worstNear_40 (by decide) rfl (fun c_40 => ?_) (fun c_40 => ?_)
            · refine ev_inc_4 (q := 79) (nI (k + 1)) dX2_worstNear_76 (nI_1 k) rfl rfl ?_
              refine ev_goto 6 dX2_worstNear_79 (by decide) ?_
              exact e _ (WnC_no ho (by omega) hd2 hb) _
            · exact absurd rfl c_40
        | true =>
          rw [hb] at lb
          have J73 : (∀ w, o = some w → S 31 (aim ^^^ d) < S 31 w ∨ (S 31 (aim ^^^ d) = S 31 w ∧ aim ^^^ d < w)) → Ev xl xs 0 0 0 0 mX2_worstNear 73 [some (.ref 24), some (.int (nI aim)), some (.ref 31), some (.int (e3 o)), some (.int (nI k)), some (.int (nI (aim ^^^ d)))] [] n (sysH (ov I S) (ovJ J T) X) Q := by
            intro hp
            refine ev_iload (q := 75) dX2_worstNear_73 rfl rfl ?_
            refine ev_ist_3 (q := 76) dX2_worstNear_75 rfl rfl ?_
            refine ev_inc_4 (q := 79) (nI (k + 1)) dX2_worstNear_76 (nI_1 k) rfl rfl ?_
            refine ev_goto 6 dX2_worstNear_79 (by decide) ?_
            exact e _ (WnC_put ho (by omega) (by omega) hd2 hb hp) _
          cases o with
          | none =>
            refine ev_iload (q := 8) dX2_worstNear_6 rfl rfl ?_
            refine ev_aload_n (q := 9) dX2_worstNear_8 rfl rfl ?_
            refine ev_get (q := 12) dX2_worstNear_9 fr_X2_59 rfl (lt_n hn (by decide)) rfl rfl ?_
            rw [h24]
            refine ev_icmp_ge (q := 15) 82 dX2_worstNear_12 (by decide) rfl (fun c_12 => ?_) (fun c_12 => ?_)
            · exact absurd ((nI_leI (by omega) (by omega)).mp c_12) hkc
            · refine ev_iload_n (q := 16) dX2_worstNear_15 rfl rfl ?_
              refine ev_aload_n (q := 17) dX2_worstNear_16 rfl rfl ?_
              refine ev_get (q := 20) dX2_worstNear_17 fr_X2_24 rfl (lt_n hn (by decide)) rfl rfl ?_
              refine ev_iload (q := 22) dX2_worstNear_20 rfl rfl ?_
              refine ev_iaS (q := 23) k dX2_worstNear_22 rfl rfl (by omega) (lt_n hn (by decide)) rfl ?_
              rw [show ov I S 29 k = nI d from hd2]
              refine ev_ixor (q := 24) dX2_worstNear_23 rfl ?_
              rw [nI_xor]
              refine ev_ist_5 (q := 26) dX2_worstNear_24 rfl rfl ?_
              refine ev_aload_n (q := 27) dX2_worstNear_26 rfl rfl ?_
              refine ev_get (q := 30) dX2_worstNear_27 fr_X2_27 rfl (lt_n hn (by decide)) rfl rfl ?_
              refine ev_get (q := 33) dX2_worstNear_30 fr_X2_80 rfl (lt_n hn (by decide)) rfl rfl ?_
              refine ev_iload (q := 35) dX2_worstNear_33 rfl rfl ?_
              rw [show ovJ J T 1 5 = J 33 8 from hk.2.2.1.1]
              refine ev_lushr (q := 36) dX2_worstNear_35 rfl ?_
              refine ev_lconst (q := 37) (1) dX2_worstNear_36 (by decide) rfl ?_
              refine ev_land (q := 38) dX2_worstNear_37 rfl ?_
              rw [lb]
              refine ev_lconst (q := 39) (0) dX2_worstNear_38 (by decide) rfl ?_
              refine ev_lcmp (q := 40) dX2_worstNear_39 rfl ?_
              refine ev_if_eq (q := 43) 76 dX2_worstNear_40 (by decide) rfl (fun c_40 => ?_) (fun c_40 => ?_)
              · exact absurd c_40 (by decide)
              · refine ev_iload_n (q := 44) dX2_worstNear_43 rfl rfl ?_
                refine ev_if_lt (q := 47) 73 dX2_worstNear_44 (by decide) rfl (fun c_44 => ?_) (fun c_44 => ?_)
                · exact J73 (fun w hw => by cases hw)
                · exact absurd (show (-3 : Int32) < 0 by decide) c_44
          | some w =>
            have hw : w < 64 := ho.1
            refine ev_iload (q := 8) dX2_worstNear_6 rfl rfl ?_
            refine ev_aload_n (q := 9) dX2_worstNear_8 rfl rfl ?_
            refine ev_get (q := 12) dX2_worstNear_9 fr_X2_59 rfl (lt_n hn (by decide)) rfl rfl ?_
            rw [h24]
            refine ev_icmp_ge (q := 15) 82 dX2_worstNear_12 (by decide) rfl (fun c_12 => ?_) (fun c_12 => ?_)
            · exact absurd ((nI_leI (by omega) (by omega)).mp c_12) hkc
            · refine ev_iload_n (q := 16) dX2_worstNear_15 rfl rfl ?_
              refine ev_aload_n (q := 17) dX2_worstNear_16 rfl rfl ?_
              refine ev_get (q := 20) dX2_worstNear_17 fr_X2_24 rfl (lt_n hn (by decide)) rfl rfl ?_
              refine ev_iload (q := 22) dX2_worstNear_20 rfl rfl ?_
              refine ev_iaS (q := 23) k dX2_worstNear_22 rfl rfl (by omega) (lt_n hn (by decide)) rfl ?_
              rw [show ov I S 29 k = nI d from hd2]
              refine ev_ixor (q := 24) dX2_worstNear_23 rfl ?_
              rw [nI_xor]
              refine ev_ist_5 (q := 26) dX2_worstNear_24 rfl rfl ?_
              refine ev_aload_n (q := 27) dX2_worstNear_26 rfl rfl ?_
              refine ev_get (q := 30) dX2_worstNear_27 fr_X2_27 rfl (lt_n hn (by decide)) rfl rfl ?_
              refine ev_get (q := 33) dX2_worstNear_30 fr_X2_80 rfl (lt_n hn (by decide)) rfl rfl ?_
              refine ev_iload (q := 35) dX2_worstNear_33 rfl rfl ?_
              rw [show ovJ J T 1 5 = J 33 8 from hk.2.2.1.1]
              refine ev_lushr (q := 36) dX2_worstNear_35 rfl ?_
              refine ev_lconst (q := 37) (1) dX2_worstNear_36 (by decide) rfl ?_
              refine ev_land (q := 38) dX2_worstNear_37 rfl ?_
              rw [lb]
              refine ev_lconst (q := 39) (0) dX2_worstNear_38 (by decide) rfl ?_
              refine ev_lcmp (q := 40) dX2_worstNear_39 rfl ?_
              refine ev_if_eq (q := 43) 76 dX2_worstNear_40 (by decide) rfl (fun c_40 => ?_) (fun c_40 => ?_)
              · exact absurd c_40 (by decide)
              · refine ev_iload_n (q := 44) dX2_worstNear_43 rfl rfl ?_
                refine ev_if_lt (q := 47) 73 dX2_worstNear_44 (by decide) rfl (fun c_44 => ?_) (fun c_44 => ?_)
                · exact absurd c_44 (nI_pos (n := w) (by omega))
                · refine ev_aload_n (q := 48) dX2_worstNear_47 rfl rfl ?_
                  refine ev_iload (q := 50) dX2_worstNear_48 rfl rfl ?_
                  refine ev_iaS (q := 51) (aim ^^^ d) dX2_worstNear_50 rfl rfl (by omega) (lt_n hn (by decide)) rfl ?_
                  refine ev_aload_n (q := 52) dX2_worstNear_51 rfl rfl ?_
                  refine ev_iload_n (q := 53) dX2_worstNear_52 rfl rfl ?_
                  refine ev_iaS (q := 54) w dX2_worstNear_53 rfl rfl (by omega) (lt_n hn (by decide)) rfl ?_
                  refine ev_icmp_lt (q := 57) 73 dX2_worstNear_54 (by decide) rfl (fun c_54 => ?_) (fun c_54 => ?_)
                  · have c_54 : S 31 (aim ^^^ d) < S 31 w := c_54
                    first | exact J73 (fun v hv => by cases hv; exact Or.inl c_54) | exact J73 (fun v hv => by cases hv; exact Or.inr ⟨c_64, c_70⟩)
                  · have c_54 : ¬ S 31 (aim ^^^ d) < S 31 w := c_54
                    refine ev_aload_n (q := 58) dX2_worstNear_57 rfl rfl ?_
                    refine ev_iload (q := 60) dX2_worstNear_58 rfl rfl ?_
                    refine ev_iaS (q := 61) (aim ^^^ d) dX2_worstNear_60 rfl rfl (by omega) (lt_n hn (by decide)) rfl ?_
                    refine ev_aload_n (q := 62) dX2_worstNear_61 rfl rfl ?_
                    refine ev_iload_n (q := 63) dX2_worstNear_62 rfl rfl ?_
                    refine ev_iaS (q := 64) w dX2_worstNear_63 rfl rfl (by omega) (lt_n hn (by decide)) rfl ?_
                    refine ev_icmp_ne (q := 67) 76 dX2_worstNear_64 (by decide) rfl (fun c_64 => ?_) (fun c_64 => ?_)
                    · have c_64 : ¬ S 31 (aim ^^^ d) = S 31 w := c_64
                      refine ev_inc_4 (q := 79) (nI (k + 1)) dX2_worstNear_76 (nI_1 k) rfl rfl ?_
                      refine ev_goto 6 dX2_worstNear_79 (by decide) ?_
                      first | exact e _ (WnC_keep ho (by omega) hd2 c_54 (Or.inl c_64)) _ | exact e _ (WnC_keep ho (by omega) hd2 c_54 (Or.inr c_70)) _
                    · have c_64 : S 31 (aim ^^^ d) = S 31 w := c_64
                      refine ev_iload (q := 69) dX2_worstNear_67 rfl rfl ?_
                      refine ev_iload_n (q := 70) dX2_worstNear_69 rfl rfl ?_
                      refine ev_icmp_ge (q := 73) 76 dX2_worstNear_70 (by decide) rfl (fun c_70 => ?_) (fun c_70 => ?_)
                      · have c_70 : ¬ aim ^^^ d < w := fun g => absurd ((nI_leI (a := w) (by omega) (by omega)).mp c_70) (by omega)
                        refine ev_inc_4 (q := 79) (nI (k + 1)) dX2_worstNear_76 (nI_1 k) rfl rfl ?_
                        refine ev_goto 6 dX2_worstNear_79 (by decide) ?_
                        first | exact e _ (WnC_keep ho (by omega) hd2 c_54 (Or.inl c_64)) _ | exact e _ (WnC_keep ho (by omega) hd2 c_54 (Or.inr c_70)) _
                      · have c_70 : aim ^^^ d < w := by by_cases g : aim ^^^ d < w; exact g; exact absurd ((nI_leI (a := w) (by omega) (by omega)).mpr (by omega)) c_70
                        first | exact J73 (fun v hv => by cases hv; exact Or.inl c_54) | exact J73 (fun v hv => by cases hv; exact Or.inr ⟨c_64, c_70⟩)
  refine ev_bipush (q := 2) (-3) dX2_worstNear_0 (by decide) rfl ?_
  refine ev_ist_3 (q := 3) dX2_worstNear_2 rfl rfl ?_
  refine ev_iconst (q := 4) (0) dX2_worstNear_3 (by decide) rfl ?_
  refine ev_ist_4 (q := 6) dX2_worstNear_4 rfl rfl ?_
  exact lp c 0 (by omega) none (fun i d hi => absurd hi (by omega)) _
theorem k_takePart {w p x y : Nat} {r q : Int32} (hn : 49 ≤ n) (hw : w < 64) (hp : p < 64) (h27 : S 27 p = r) (h28 : I 28 p = nI x) (hx : x < 64) (h26 : S 26 w = nI y) (hy : y < 64) (h25 : S 25 w = q) : RnP xl xs 1 23 mX2_takePart [.ref 24, .int (nI w), .int (nI p), .ref 31] n I S J T X none (fun S' T' => T' = T ∧ (∀ k, k ≠ 25 → k ≠ 26 → S' k = S k) ∧ (∀ v, v ≠ w → S' 25 v = S 25 v ∧ S' 26 v = S 26 v) ∧ ((¬ r < 0 ∧ isB (S 31 x) r (S 31 y) q = true ∧ S' 25 w = r ∧ S' 26 w = nI x) ∨ ((r < 0 ∨ isB (S 31 x) r (S 31 y) q = false) ∧ S' 25 w = q ∧ S' 26 w = nI y))) := by
  intro Q hQ
  show Ev xl xs 1 23 0 0 mX2_takePart 0 [some (.ref 24), some (.int (nI w)), some (.int (nI p)), some (.ref 31), none, none] [] n (sysH (ov I S) (ovJ J T) X) Q
  by_cases hr : r < 0
  · refine ev_aload_n (q := 1) dX2_takePart_0 rfl rfl ?_
    refine ev_get (q := 4) dX2_takePart_1 fr_X2_18 rfl (lt_n hn (by decide)) rfl rfl ?_
    refine ev_iload_n (q := 5) dX2_takePart_4 rfl rfl ?_
    refine ev_iaS (q := 6) p dX2_takePart_5 rfl rfl (by omega) (lt_n hn (by decide)) rfl ?_
    rw [show ov I S 27 p = r from h27]
    refine ev_ist_4 (q := 8) dX2_takePart_6 rfl rfl ?_
    refine ev_aload_n (q := 9) dX2_takePart_8 rfl rfl ?_
    refine ev_get (q := 12) dX2_takePart_9 fr_X2_21 rfl (lt_n hn (by decide)) rfl rfl ?_
    refine ev_iload_n (q := 13) dX2_takePart_12 rfl rfl ?_
    refine ev_iaS (q := 14) p dX2_takePart_13 rfl rfl (by omega) (lt_n hn (by decide)) rfl ?_
    rw [show ov I S 28 p = nI x from h28]
    refine ev_ist_5 (q := 16) dX2_takePart_14 rfl rfl ?_
    refine ev_iload (q := 18) dX2_takePart_16 rfl rfl ?_
    refine ev_if_lt (q := 21) 63 dX2_takePart_18 (by decide) rfl (fun c_18 => ?_) (fun c_18 => ?_)
    · exact ev_retE dX2_takePart_63 rfl rfl rfl (hQ _ _ ⟨rfl, fun _ _ _ => rfl, fun _ _ => ⟨rfl, rfl⟩, Or.inr ⟨Or.inl hr, h25, h26⟩⟩)
    · exact absurd hr c_18
  · cases hb : isB (S 31 x) r (S 31 y) q with
    | true =>
      refine ev_aload_n (q := 1) dX2_takePart_0 rfl rfl ?_
      refine ev_get (q := 4) dX2_takePart_1 fr_X2_18 rfl (lt_n hn (by decide)) rfl rfl ?_
      refine ev_iload_n (q := 5) dX2_takePart_4 rfl rfl ?_
      refine ev_iaS (q := 6) p dX2_takePart_5 rfl rfl (by omega) (lt_n hn (by decide)) rfl ?_
      rw [show ov I S 27 p = r from h27]
      refine ev_ist_4 (q := 8) dX2_takePart_6 rfl rfl ?_
      refine ev_aload_n (q := 9) dX2_takePart_8 rfl rfl ?_
      refine ev_get (q := 12) dX2_takePart_9 fr_X2_21 rfl (lt_n hn (by decide)) rfl rfl ?_
      refine ev_iload_n (q := 13) dX2_takePart_12 rfl rfl ?_
      refine ev_iaS (q := 14) p dX2_takePart_13 rfl rfl (by omega) (lt_n hn (by decide)) rfl ?_
      rw [show ov I S 28 p = nI x from h28]
      refine ev_ist_5 (q := 16) dX2_takePart_14 rfl rfl ?_
      refine ev_iload (q := 18) dX2_takePart_16 rfl rfl ?_
      refine ev_if_lt (q := 21) 63 dX2_takePart_18 (by decide) rfl (fun c_18 => ?_) (fun c_18 => ?_)
      · exact absurd c_18 hr
      · refine ev_aload_n (q := 22) dX2_takePart_21 rfl rfl ?_
        refine ev_iload (q := 24) dX2_takePart_22 rfl rfl ?_
        refine ev_iaS (q := 25) x dX2_takePart_24 rfl rfl (by omega) (lt_n hn (by decide)) rfl ?_
        refine ev_iload (q := 27) dX2_takePart_25 rfl rfl ?_
        refine ev_aload_n (q := 28) dX2_takePart_27 rfl rfl ?_
        refine ev_aload_n (q := 29) dX2_takePart_28 rfl rfl ?_
        refine ev_get (q := 32) dX2_takePart_29 fr_X2_15 rfl (lt_n hn (by decide)) rfl rfl ?_
        refine ev_iload_n (q := 33) dX2_takePart_32 rfl rfl ?_
        refine ev_iaS (q := 34) w dX2_takePart_33 rfl rfl (by omega) (lt_n hn (by decide)) rfl ?_
        rw [show ov I S 26 w = nI y from h26]
        refine ev_iaS (q := 35) y dX2_takePart_34 rfl rfl (by omega) (lt_n hn (by decide)) rfl ?_
        refine ev_aload_n (q := 36) dX2_takePart_35 rfl rfl ?_
        refine ev_get (q := 39) dX2_takePart_36 fr_X2_9 rfl (lt_n hn (by decide)) rfl rfl ?_
        refine ev_iload_n (q := 40) dX2_takePart_39 rfl rfl ?_
        refine ev_iaS (q := 41) w dX2_takePart_40 rfl rfl (by omega) (lt_n hn (by decide)) rfl ?_
        rw [show ov I S 25 w = q from h25]
        refine ev_callS4i (q := 44) dX2_takePart_41 ca_X2_76 (c_isBetter _ _ _ _) (Nat.le_of_ble_eq_true rfl) (Nat.le_of_ble_eq_true rfl) (by decide) (by decide) rfl ?_
        rw [show isB (ov I S 31 x) r (ov I S 31 y) q = true from hb]
        refine ev_if_eq (q := 47) 63 dX2_takePart_44 (by decide) rfl (fun c_44 => ?_) (fun c_44 => ?_)
        · exact absurd c_44 (by decide)
        · refine ev_aload_n (q := 48) dX2_takePart_47 rfl rfl ?_
          refine ev_get (q := 51) dX2_takePart_48 fr_X2_9 rfl (lt_n hn (by decide)) rfl rfl ?_
          refine ev_iload_n (q := 52) dX2_takePart_51 rfl rfl ?_
          refine ev_iload (q := 54) dX2_takePart_52 rfl rfl ?_
          first | refine ev_isK (q := 55) w dX2_takePart_54 rfl rfl (by omega) (lt_n hn (by decide)) rfl rfl ?_ | refine ev_isR (q := 55) w dX2_takePart_54 rfl rfl (by omega) (lt_n hn (by decide)) rfl rfl ?_
          refine ev_aload_n (q := 56) dX2_takePart_55 rfl rfl ?_
          refine ev_get (q := 59) dX2_takePart_56 fr_X2_15 rfl (lt_n hn (by decide)) rfl rfl ?_
          refine ev_iload_n (q := 60) dX2_takePart_59 rfl rfl ?_
          refine ev_iload (q := 62) dX2_takePart_60 rfl rfl ?_
          first | refine ev_isK (q := 63) w dX2_takePart_62 rfl rfl (by omega) (lt_n hn (by decide)) rfl rfl ?_ | refine ev_isR (q := 63) w dX2_takePart_62 rfl rfl (by omega) (lt_n hn (by decide)) rfl rfl ?_
          exact ev_retE dX2_takePart_63 rfl rfl rfl (hQ _ _ ⟨rfl, fun k h1 h2 => by simp [setI, h1, h2], fun v hv => ⟨by show upd (S 25) w r v = S 25 v; exact pk_un hv, by show upd (S 26) w (nI x) v = S 26 v; exact pk_un hv⟩, Or.inl ⟨hr, hb, by show upd (S 25) w r w = r; exact pk_us, by show upd (S 26) w (nI x) w = nI x; exact pk_us⟩⟩)
    | false =>
      refine ev_aload_n (q := 1) dX2_takePart_0 rfl rfl ?_
      refine ev_get (q := 4) dX2_takePart_1 fr_X2_18 rfl (lt_n hn (by decide)) rfl rfl ?_
      refine ev_iload_n (q := 5) dX2_takePart_4 rfl rfl ?_
      refine ev_iaS (q := 6) p dX2_takePart_5 rfl rfl (by omega) (lt_n hn (by decide)) rfl ?_
      rw [show ov I S 27 p = r from h27]
      refine ev_ist_4 (q := 8) dX2_takePart_6 rfl rfl ?_
      refine ev_aload_n (q := 9) dX2_takePart_8 rfl rfl ?_
      refine ev_get (q := 12) dX2_takePart_9 fr_X2_21 rfl (lt_n hn (by decide)) rfl rfl ?_
      refine ev_iload_n (q := 13) dX2_takePart_12 rfl rfl ?_
      refine ev_iaS (q := 14) p dX2_takePart_13 rfl rfl (by omega) (lt_n hn (by decide)) rfl ?_
      rw [show ov I S 28 p = nI x from h28]
      refine ev_ist_5 (q := 16) dX2_takePart_14 rfl rfl ?_
      refine ev_iload (q := 18) dX2_takePart_16 rfl rfl ?_
      refine ev_if_lt (q := 21) 63 dX2_takePart_18 (by decide) rfl (fun c_18 => ?_) (fun c_18 => ?_)
      · exact absurd c_18 hr
      · refine ev_aload_n (q := 22) dX2_takePart_21 rfl rfl ?_
        refine ev_iload (q := 24) dX2_takePart_22 rfl rfl ?_
        refine ev_iaS (q := 25) x dX2_takePart_24 rfl rfl (by omega) (lt_n hn (by decide)) rfl ?_
        refine ev_iload (q := 27) dX2_takePart_25 rfl rfl ?_
        refine ev_aload_n (q := 28) dX2_takePart_27 rfl rfl ?_
        refine ev_aload_n (q := 29) dX2_takePart_28 rfl rfl ?_
        refine ev_get (q := 32) dX2_takePart_29 fr_X2_15 rfl (lt_n hn (by decide)) rfl rfl ?_
        refine ev_iload_n (q := 33) dX2_takePart_32 rfl rfl ?_
        refine ev_iaS (q := 34) w dX2_takePart_33 rfl rfl (by omega) (lt_n hn (by decide)) rfl ?_
        rw [show ov I S 26 w = nI y from h26]
        refine ev_iaS (q := 35) y dX2_takePart_34 rfl rfl (by omega) (lt_n hn (by decide)) rfl ?_
        refine ev_aload_n (q := 36) dX2_takePart_35 rfl rfl ?_
        refine ev_get (q := 39) dX2_takePart_36 fr_X2_9 rfl (lt_n hn (by decide)) rfl rfl ?_
        refine ev_iload_n (q := 40) dX2_takePart_39 rfl rfl ?_
        refine ev_iaS (q := 41) w dX2_takePart_40 rfl rfl (by omega) (lt_n hn (by decide)) rfl ?_
        rw [show ov I S 25 w = q from h25]
        refine ev_callS4i (q := 44) dX2_takePart_41 ca_X2_76 (c_isBetter _ _ _ _) (Nat.le_of_ble_eq_true rfl) (Nat.le_of_ble_eq_true rfl) (by decide) (by decide) rfl ?_
        rw [show isB (ov I S 31 x) r (ov I S 31 y) q = false from hb]
        refine ev_if_eq (q := 47) 63 dX2_takePart_44 (by decide) rfl (fun c_44 => ?_) (fun c_44 => ?_)
        · exact ev_retE dX2_takePart_63 rfl rfl rfl (hQ _ _ ⟨rfl, fun _ _ _ => rfl, fun _ _ => ⟨rfl, rfl⟩, Or.inr ⟨Or.inr hb, h25, h26⟩⟩)
        · exact absurd rfl c_44
end CLS14
