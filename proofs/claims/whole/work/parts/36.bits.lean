section LDCW
variable {xl : Nat} {xs : Nat → Int32} {F L B1 B2 : Nat} {M : Mt} {pc : Nat} {lv : List (Option Value)} {st : List Value} {n : Nat} {h : Nat → PC} {Q : QT}
theorem ev_ldcw {q : Nat} {i : Nat} {v : Int32} (hw : Cond.constant M.1.cls i v ∈ TB) (d : decode M.2.1 pc = .ok (.ldc_w i, 3)) (hq : pc + 3 = q) (k : Ev xl xs F L B1 B2 M q lv (.int v :: st) n h Q) : Ev xl xs F L B1 B2 M pc lv st n h Q := by
  subst hq
  exact ev_pure (fun n o => okl_i o) (fun p l e R s m args below meth c H locs cells slots Z ls ad hx hb ho ht kk => lv_ldcw hx hb ho (ht _ hw) d kk) k
end LDCW
theorem dJ6_bitCount_0f7a4_0 : decode cJ6_bitCount_0f7a4 0 = .ok (.iload_n 0, 1) := by decide +kernel
theorem dJ6_bitCount_0f7a4_1 : decode cJ6_bitCount_0f7a4 1 = .ok (.iload_n 0, 1) := by decide +kernel
theorem dJ6_bitCount_0f7a4_2 : decode cJ6_bitCount_0f7a4 2 = .ok (.iconst 1, 1) := by decide +kernel
theorem dJ6_bitCount_0f7a4_3 : decode cJ6_bitCount_0f7a4 3 = .ok (.iushr, 1) := by decide +kernel
theorem dJ6_bitCount_0f7a4_4 : decode cJ6_bitCount_0f7a4 4 = .ok (.ldc_w 265, 3) := by decide +kernel
theorem dJ6_bitCount_0f7a4_7 : decode cJ6_bitCount_0f7a4 7 = .ok (.iand, 1) := by decide +kernel
theorem dJ6_bitCount_0f7a4_8 : decode cJ6_bitCount_0f7a4 8 = .ok (.isub, 1) := by decide +kernel
theorem dJ6_bitCount_0f7a4_9 : decode cJ6_bitCount_0f7a4 9 = .ok (.istore_n 0, 1) := by decide +kernel
theorem dJ6_bitCount_0f7a4_10 : decode cJ6_bitCount_0f7a4 10 = .ok (.iload_n 0, 1) := by decide +kernel
theorem dJ6_bitCount_0f7a4_11 : decode cJ6_bitCount_0f7a4 11 = .ok (.ldc_w 266, 3) := by decide +kernel
theorem dJ6_bitCount_0f7a4_14 : decode cJ6_bitCount_0f7a4 14 = .ok (.iand, 1) := by decide +kernel
theorem dJ6_bitCount_0f7a4_15 : decode cJ6_bitCount_0f7a4 15 = .ok (.iload_n 0, 1) := by decide +kernel
theorem dJ6_bitCount_0f7a4_16 : decode cJ6_bitCount_0f7a4 16 = .ok (.iconst 2, 1) := by decide +kernel
theorem dJ6_bitCount_0f7a4_17 : decode cJ6_bitCount_0f7a4 17 = .ok (.iushr, 1) := by decide +kernel
theorem dJ6_bitCount_0f7a4_18 : decode cJ6_bitCount_0f7a4 18 = .ok (.ldc_w 266, 3) := by decide +kernel
theorem dJ6_bitCount_0f7a4_21 : decode cJ6_bitCount_0f7a4 21 = .ok (.iand, 1) := by decide +kernel
theorem dJ6_bitCount_0f7a4_22 : decode cJ6_bitCount_0f7a4 22 = .ok (.iadd, 1) := by decide +kernel
theorem dJ6_bitCount_0f7a4_23 : decode cJ6_bitCount_0f7a4 23 = .ok (.istore_n 0, 1) := by decide +kernel
theorem dJ6_bitCount_0f7a4_24 : decode cJ6_bitCount_0f7a4 24 = .ok (.iload_n 0, 1) := by decide +kernel
theorem dJ6_bitCount_0f7a4_25 : decode cJ6_bitCount_0f7a4 25 = .ok (.iload_n 0, 1) := by decide +kernel
theorem dJ6_bitCount_0f7a4_26 : decode cJ6_bitCount_0f7a4 26 = .ok (.iconst 4, 1) := by decide +kernel
theorem dJ6_bitCount_0f7a4_27 : decode cJ6_bitCount_0f7a4 27 = .ok (.iushr, 1) := by decide +kernel
theorem dJ6_bitCount_0f7a4_28 : decode cJ6_bitCount_0f7a4 28 = .ok (.iadd, 1) := by decide +kernel
theorem dJ6_bitCount_0f7a4_29 : decode cJ6_bitCount_0f7a4 29 = .ok (.ldc_w 267, 3) := by decide +kernel
theorem dJ6_bitCount_0f7a4_32 : decode cJ6_bitCount_0f7a4 32 = .ok (.iand, 1) := by decide +kernel
theorem dJ6_bitCount_0f7a4_33 : decode cJ6_bitCount_0f7a4 33 = .ok (.istore_n 0, 1) := by decide +kernel
theorem dJ6_bitCount_0f7a4_34 : decode cJ6_bitCount_0f7a4 34 = .ok (.iload_n 0, 1) := by decide +kernel
theorem dJ6_bitCount_0f7a4_35 : decode cJ6_bitCount_0f7a4 35 = .ok (.iload_n 0, 1) := by decide +kernel
theorem dJ6_bitCount_0f7a4_36 : decode cJ6_bitCount_0f7a4 36 = .ok (.bipush 8, 2) := by decide +kernel
theorem dJ6_bitCount_0f7a4_38 : decode cJ6_bitCount_0f7a4 38 = .ok (.iushr, 1) := by decide +kernel
theorem dJ6_bitCount_0f7a4_39 : decode cJ6_bitCount_0f7a4 39 = .ok (.iadd, 1) := by decide +kernel
theorem dJ6_bitCount_0f7a4_40 : decode cJ6_bitCount_0f7a4 40 = .ok (.istore_n 0, 1) := by decide +kernel
theorem dJ6_bitCount_0f7a4_41 : decode cJ6_bitCount_0f7a4 41 = .ok (.iload_n 0, 1) := by decide +kernel
theorem dJ6_bitCount_0f7a4_42 : decode cJ6_bitCount_0f7a4 42 = .ok (.iload_n 0, 1) := by decide +kernel
theorem dJ6_bitCount_0f7a4_43 : decode cJ6_bitCount_0f7a4 43 = .ok (.bipush 16, 2) := by decide +kernel
theorem dJ6_bitCount_0f7a4_45 : decode cJ6_bitCount_0f7a4 45 = .ok (.iushr, 1) := by decide +kernel
theorem dJ6_bitCount_0f7a4_46 : decode cJ6_bitCount_0f7a4 46 = .ok (.iadd, 1) := by decide +kernel
theorem dJ6_bitCount_0f7a4_47 : decode cJ6_bitCount_0f7a4 47 = .ok (.istore_n 0, 1) := by decide +kernel
theorem dJ6_bitCount_0f7a4_48 : decode cJ6_bitCount_0f7a4 48 = .ok (.iload_n 0, 1) := by decide +kernel
theorem dJ6_bitCount_0f7a4_49 : decode cJ6_bitCount_0f7a4 49 = .ok (.bipush 63, 2) := by decide +kernel
theorem dJ6_bitCount_0f7a4_51 : decode cJ6_bitCount_0f7a4 51 = .ok (.iand, 1) := by decide +kernel
theorem dJ6_bitCount_0f7a4_52 : decode cJ6_bitCount_0f7a4 52 = .ok (.ireturn, 1) := by decide +kernel
theorem dJ13_bitCount_95d88_0 : decode cJ13_bitCount_95d88 0 = .ok (.lload_n 0, 1) := by decide +kernel
theorem dJ13_bitCount_95d88_1 : decode cJ13_bitCount_95d88 1 = .ok (.lload_n 0, 1) := by decide +kernel
theorem dJ13_bitCount_95d88_2 : decode cJ13_bitCount_95d88 2 = .ok (.iconst 1, 1) := by decide +kernel
theorem dJ13_bitCount_95d88_3 : decode cJ13_bitCount_95d88 3 = .ok (.lushr, 1) := by decide +kernel
theorem dJ13_bitCount_95d88_4 : decode cJ13_bitCount_95d88 4 = .ok (.ldc2_w 314, 3) := by decide +kernel
theorem dJ13_bitCount_95d88_7 : decode cJ13_bitCount_95d88 7 = .ok (.land, 1) := by decide +kernel
theorem dJ13_bitCount_95d88_8 : decode cJ13_bitCount_95d88 8 = .ok (.lsub, 1) := by decide +kernel
theorem dJ13_bitCount_95d88_9 : decode cJ13_bitCount_95d88 9 = .ok (.lstore_n 0, 1) := by decide +kernel
theorem dJ13_bitCount_95d88_10 : decode cJ13_bitCount_95d88 10 = .ok (.lload_n 0, 1) := by decide +kernel
theorem dJ13_bitCount_95d88_11 : decode cJ13_bitCount_95d88 11 = .ok (.ldc2_w 316, 3) := by decide +kernel
theorem dJ13_bitCount_95d88_14 : decode cJ13_bitCount_95d88 14 = .ok (.land, 1) := by decide +kernel
theorem dJ13_bitCount_95d88_15 : decode cJ13_bitCount_95d88 15 = .ok (.lload_n 0, 1) := by decide +kernel
theorem dJ13_bitCount_95d88_16 : decode cJ13_bitCount_95d88 16 = .ok (.iconst 2, 1) := by decide +kernel
theorem dJ13_bitCount_95d88_17 : decode cJ13_bitCount_95d88 17 = .ok (.lushr, 1) := by decide +kernel
theorem dJ13_bitCount_95d88_18 : decode cJ13_bitCount_95d88 18 = .ok (.ldc2_w 316, 3) := by decide +kernel
theorem dJ13_bitCount_95d88_21 : decode cJ13_bitCount_95d88 21 = .ok (.land, 1) := by decide +kernel
theorem dJ13_bitCount_95d88_22 : decode cJ13_bitCount_95d88 22 = .ok (.ladd, 1) := by decide +kernel
theorem dJ13_bitCount_95d88_23 : decode cJ13_bitCount_95d88 23 = .ok (.lstore_n 0, 1) := by decide +kernel
theorem dJ13_bitCount_95d88_24 : decode cJ13_bitCount_95d88 24 = .ok (.lload_n 0, 1) := by decide +kernel
theorem dJ13_bitCount_95d88_25 : decode cJ13_bitCount_95d88 25 = .ok (.lload_n 0, 1) := by decide +kernel
theorem dJ13_bitCount_95d88_26 : decode cJ13_bitCount_95d88 26 = .ok (.iconst 4, 1) := by decide +kernel
theorem dJ13_bitCount_95d88_27 : decode cJ13_bitCount_95d88 27 = .ok (.lushr, 1) := by decide +kernel
theorem dJ13_bitCount_95d88_28 : decode cJ13_bitCount_95d88 28 = .ok (.ladd, 1) := by decide +kernel
theorem dJ13_bitCount_95d88_29 : decode cJ13_bitCount_95d88 29 = .ok (.ldc2_w 318, 3) := by decide +kernel
theorem dJ13_bitCount_95d88_32 : decode cJ13_bitCount_95d88 32 = .ok (.land, 1) := by decide +kernel
theorem dJ13_bitCount_95d88_33 : decode cJ13_bitCount_95d88 33 = .ok (.lstore_n 0, 1) := by decide +kernel
theorem dJ13_bitCount_95d88_34 : decode cJ13_bitCount_95d88 34 = .ok (.lload_n 0, 1) := by decide +kernel
theorem dJ13_bitCount_95d88_35 : decode cJ13_bitCount_95d88 35 = .ok (.lload_n 0, 1) := by decide +kernel
theorem dJ13_bitCount_95d88_36 : decode cJ13_bitCount_95d88 36 = .ok (.bipush 8, 2) := by decide +kernel
theorem dJ13_bitCount_95d88_38 : decode cJ13_bitCount_95d88 38 = .ok (.lushr, 1) := by decide +kernel
theorem dJ13_bitCount_95d88_39 : decode cJ13_bitCount_95d88 39 = .ok (.ladd, 1) := by decide +kernel
theorem dJ13_bitCount_95d88_40 : decode cJ13_bitCount_95d88 40 = .ok (.lstore_n 0, 1) := by decide +kernel
theorem dJ13_bitCount_95d88_41 : decode cJ13_bitCount_95d88 41 = .ok (.lload_n 0, 1) := by decide +kernel
theorem dJ13_bitCount_95d88_42 : decode cJ13_bitCount_95d88 42 = .ok (.lload_n 0, 1) := by decide +kernel
theorem dJ13_bitCount_95d88_43 : decode cJ13_bitCount_95d88 43 = .ok (.bipush 16, 2) := by decide +kernel
theorem dJ13_bitCount_95d88_45 : decode cJ13_bitCount_95d88 45 = .ok (.lushr, 1) := by decide +kernel
theorem dJ13_bitCount_95d88_46 : decode cJ13_bitCount_95d88 46 = .ok (.ladd, 1) := by decide +kernel
theorem dJ13_bitCount_95d88_47 : decode cJ13_bitCount_95d88 47 = .ok (.lstore_n 0, 1) := by decide +kernel
theorem dJ13_bitCount_95d88_48 : decode cJ13_bitCount_95d88 48 = .ok (.lload_n 0, 1) := by decide +kernel
theorem dJ13_bitCount_95d88_49 : decode cJ13_bitCount_95d88 49 = .ok (.lload_n 0, 1) := by decide +kernel
theorem dJ13_bitCount_95d88_50 : decode cJ13_bitCount_95d88 50 = .ok (.bipush 32, 2) := by decide +kernel
theorem dJ13_bitCount_95d88_52 : decode cJ13_bitCount_95d88 52 = .ok (.lushr, 1) := by decide +kernel
theorem dJ13_bitCount_95d88_53 : decode cJ13_bitCount_95d88 53 = .ok (.ladd, 1) := by decide +kernel
theorem dJ13_bitCount_95d88_54 : decode cJ13_bitCount_95d88 54 = .ok (.lstore_n 0, 1) := by decide +kernel
theorem dJ13_bitCount_95d88_55 : decode cJ13_bitCount_95d88 55 = .ok (.lload_n 0, 1) := by decide +kernel
theorem dJ13_bitCount_95d88_56 : decode cJ13_bitCount_95d88 56 = .ok (.l2i, 1) := by decide +kernel
theorem dJ13_bitCount_95d88_57 : decode cJ13_bitCount_95d88 57 = .ok (.bipush 127, 2) := by decide +kernel
theorem dJ13_bitCount_95d88_59 : decode cJ13_bitCount_95d88 59 = .ok (.iand, 1) := by decide +kernel
theorem dJ13_bitCount_95d88_60 : decode cJ13_bitCount_95d88 60 = .ok (.ireturn, 1) := by decide +kernel
/-- digits, the least first -/
def dv (B : Nat) : (Nat → Nat) → Nat → Nat
  | _, 0 => 0
  | d, m + 1 => d 0 + B * dv B (fun k => d (k + 1)) m
theorem dv_congr {B : Nat} : ∀ {m : Nat} {d e : Nat → Nat}, (∀ k, k < m → d k = e k) → dv B d m = dv B e m
  | 0, _, _, _ => rfl
  | m + 1, d, e, h => by
    show d 0 + B * dv B _ m = e 0 + B * dv B _ m
    rw [h 0 (by omega), dv_congr (fun k hk => h (k + 1) (by omega))]
theorem dv_add {B : Nat} : ∀ (m : Nat) (d e : Nat → Nat), dv B d m + dv B e m = dv B (fun k => d k + e k) m
  | 0, _, _ => rfl
  | m + 1, d, e => by
    show (d 0 + B * dv B _ m) + (e 0 + B * dv B _ m) = (d 0 + e 0) + B * dv B _ m
    rw [← dv_add m (fun k => d (k + 1)) (fun k => e (k + 1)), Nat.mul_add]
    omega
theorem dv_two {B : Nat} : ∀ (m : Nat) (d : Nat → Nat), dv B d (2 * m) = dv (B * B) (fun k => d (2 * k) + B * d (2 * k + 1)) m
  | 0, _ => rfl
  | m + 1, d => by
    show d 0 + B * (d 1 + B * dv B (fun k => d (k + 2)) (2 * m)) = (d 0 + B * d 1) + (B * B) * dv (B * B) (fun k => d (2 * (k + 1)) + B * d (2 * (k + 1) + 1)) m
    rw [dv_two m (fun k => d (k + 2)), Nat.mul_add, Nat.mul_assoc]
    have : (fun k => d (2 * k + 2) + B * d (2 * k + 1 + 2)) = (fun k => d (2 * (k + 1)) + B * d (2 * (k + 1) + 1)) := by
      funext k
      rw [show 2 * k + 2 = 2 * (k + 1) by omega, show 2 * k + 1 + 2 = 2 * (k + 1) + 1 by omega]
    rw [this]
    omega
theorem dv_lt {B : Nat} : ∀ (m : Nat) (d : Nat → Nat), (∀ k, k < m → d k < B) → dv B d m < B ^ m
  | 0, _, _ => by simp [dv]
  | m + 1, d, h => by
    have h1 := dv_lt m (fun k => d (k + 1)) (fun k hk => h (k + 1) (by omega))
    have h0 := h 0 (by omega)
    show d 0 + B * dv B (fun k => d (k + 1)) m < B ^ (m + 1)
    rw [Nat.pow_succ, Nat.mul_comm (B ^ m)]
    have : B * (dv B (fun k => d (k + 1)) m + 1) ≤ B * B ^ m := Nat.mul_le_mul_left _ h1
    rw [Nat.mul_add] at this
    omega
theorem dv_div {B : Nat} {m : Nat} {d : Nat → Nat} (h : d 0 < B) : dv B d (m + 1) / B = dv B (fun k => d (k + 1)) m := by
  show (d 0 + B * dv B (fun k => d (k + 1)) m) / B = _
  rw [Nat.add_mul_div_left _ _ (by omega), Nat.div_eq_of_lt h, Nat.zero_add]
theorem dv_mod {B : Nat} {m : Nat} {d : Nat → Nat} (h : d 0 < B) : dv B d (m + 1) % B = d 0 := by
  show (d 0 + B * dv B (fun k => d (k + 1)) m) % B = _
  rw [Nat.add_mul_mod_self_left, Nat.mod_eq_of_lt h]
/-- one digit more, a 0 -/
theorem dv_0 {B : Nat} : ∀ (m : Nat) (d : Nat → Nat), d m = 0 → dv B d (m + 1) = dv B d m
  | 0, d, h => by show d 0 + B * 0 = 0; rw [h]; rfl
  | m + 1, d, h => by
    show d 0 + B * dv B (fun k => d (k + 1)) (m + 1) = d 0 + B * dv B (fun k => d (k + 1)) m
    rw [dv_0 m (fun k => d (k + 1)) h]
theorem dv_and {s : Nat} : ∀ (m : Nat) (d e : Nat → Nat), (∀ k, k < m → d k < 2 ^ s) → (∀ k, k < m → e k < 2 ^ s) → dv (2 ^ s) d m &&& dv (2 ^ s) e m = dv (2 ^ s) (fun k => d k &&& e k) m
  | 0, _, _, _, _ => by simp [dv]
  | m + 1, d, e, h1, h2 => by
    have h10 := h1 0 (by omega)
    have h20 := h2 0 (by omega)
    have e1 : (dv (2 ^ s) d (m + 1) &&& dv (2 ^ s) e (m + 1)) % 2 ^ s = d 0 &&& e 0 := by
      rw [Nat.and_mod_two_pow, dv_mod h10, dv_mod h20]
    have e2 : (dv (2 ^ s) d (m + 1) &&& dv (2 ^ s) e (m + 1)) / 2 ^ s = dv (2 ^ s) (fun k => d (k + 1) &&& e (k + 1)) m := by
      rw [Nat.and_div_two_pow, dv_div h10, dv_div h20]
      exact dv_and m _ _ (fun k hk => h1 (k + 1) (by omega)) (fun k hk => h2 (k + 1) (by omega))
    have e3 := Nat.mod_add_div (dv (2 ^ s) d (m + 1) &&& dv (2 ^ s) e (m + 1)) (2 ^ s)
    rw [e1, e2] at e3
    exact e3.symm
def bt (n k : Nat) : Nat := if n.testBit k then 1 else 0
theorem bt_le (n k : Nat) : bt n k ≤ 1 := by unfold bt; split <;> omega
theorem bt_s (n k : Nat) : bt n (k + 1) = bt (n / 2) k := by unfold bt; rw [Nat.testBit_succ]
theorem bt_0 (n : Nat) : bt n 0 = n % 2 := by
  unfold bt
  rw [Nat.testBit_zero]
  have : n % 2 = 0 ∨ n % 2 = 1 := by omega
  rcases this with h | h <;> simp [h]
theorem dv_bits : ∀ m n, n < 2 ^ m → dv 2 (bt n) m = n
  | 0, n, h => by simp at h; simp [dv, h]
  | m + 1, n, h => by
    show bt n 0 + 2 * dv 2 (fun k => bt n (k + 1)) m = n
    have : (fun k => bt n (k + 1)) = bt (n / 2) := by funext k; exact bt_s n k
    rw [this, dv_bits m (n / 2) (by rw [Nat.pow_succ] at h; omega), bt_0]
    omega
def alt (v k : Nat) : Nat := if k % 2 = 0 then v else 0
theorem a1 : ∀ a, a ≤ 1 → a &&& 1 = a := by decide
theorem a3 : ∀ a, a < 4 → a &&& 3 = a := by decide
theorem a15 : ∀ a, a < 16 → a &&& 15 = a := by decide
theorem alt_and {v a k : Nat} (h : a &&& v = a) : a &&& alt v k = if k % 2 = 0 then a else 0 := by
  unfold alt
  split
  · exact h
  · exact Nat.and_zero a
theorem dv_8 (d : Nat → Nat) : dv 256 d 8 = d 0 + 256 * (d 1 + 256 * (d 2 + 256 * (d 3 + 256 * (d 4 + 256 * (d 5 + 256 * (d 6 + 256 * d 7)))))) := by simp [dv]
theorem M1v : (6148914691236517205 : Nat) = dv (2 ^ 1) (alt 1) (2 * 32) := by decide +kernel
theorem M2v : (3689348814741910323 : Nat) = dv (2 ^ 2) (alt 3) (2 * 16) := by decide +kernel
theorem M3v : (1085102592571150095 : Nat) = dv (2 ^ 4) (alt 15) (2 * 8) := by decide +kernel
theorem dv_shift {B : Nat} {m : Nat} {d : Nat → Nat} (h : d 0 < B) (h0 : d (m + 1) = 0) : dv B d (m + 1) / B = dv B (fun k => d (k + 1)) (m + 1) := by
  rw [dv_div h, dv_0 m _ h0]
theorem dv_mask {s v : Nat} (hv : v < 2 ^ s) (m : Nat) (d : Nat → Nat) (h : ∀ k, d k < 2 ^ s) (h2 : ∀ k, d k &&& v = d k) : dv (2 ^ s) d (2 * m) &&& dv (2 ^ s) (alt v) (2 * m) = dv (2 ^ s * 2 ^ s) (fun k => d (2 * k)) m := by
  rw [dv_and (2 * m) _ _ (fun k _ => h k) (fun k _ => by unfold alt; split <;> omega), dv_two]
  refine dv_congr (fun k hk => ?_)
  rw [alt_and (h2 _), alt_and (h2 _), if_pos (by omega), if_neg (by omega)]
  rfl
def s4 (n k : Nat) : Nat := bt n (2 * k) + bt n (2 * k + 1)
def s16 (n k : Nat) : Nat := s4 n (2 * k) + s4 n (2 * k + 1)
def s256 (n k : Nat) : Nat := s16 n (2 * k) + s16 n (2 * k + 1)
theorem s4_le (n k : Nat) : s4 n k ≤ 2 := by have := bt_le n (2 * k); have := bt_le n (2 * k + 1); unfold s4; omega
theorem s16_le (n k : Nat) : s16 n k ≤ 4 := by have := s4_le n (2 * k); have := s4_le n (2 * k + 1); unfold s16; omega
theorem s256_le (n k : Nat) : s256 n k ≤ 8 := by have := s16_le n (2 * k); have := s16_le n (2 * k + 1); unfold s256; omega
theorem bt_hi {n m k : Nat} (h : n < 2 ^ m) (hk : m ≤ k) : bt n k = 0 := by
  unfold bt
  rw [Nat.testBit_lt_two_pow (Nat.lt_of_lt_of_le h (Nat.pow_le_pow_right (by decide) hk))]
  rfl
theorem s4_hi {n m k : Nat} (h : n < 2 ^ m) (hk : m ≤ 2 * k) : s4 n k = 0 := by unfold s4; rw [bt_hi h hk, bt_hi h (by omega)]
theorem s16_hi {n m k : Nat} (h : n < 2 ^ m) (hk : m ≤ 4 * k) : s16 n k = 0 := by unfold s16; rw [s4_hi h (by omega), s4_hi h (by omega)]
theorem bc1 (m : Nat) {n : Nat} (h : n < 2 ^ (2 * (m + 1))) : n - (n / 2 &&& dv (2 ^ 1) (alt 1) (2 * (m + 1))) = dv 4 (s4 n) (m + 1) := by
  have e0 : dv 2 (bt n) (2 * (m + 1)) = n := dv_bits _ n h
  have e1 : n / 2 = dv 2 (fun k => bt n (k + 1)) (2 * (m + 1)) := by
    conv => lhs; rw [← e0]
    exact dv_shift (m := 2 * m + 1) (by have := bt_le n 0; omega) (bt_hi h (by omega))
  have e3 : n / 2 &&& dv (2 ^ 1) (alt 1) (2 * (m + 1)) = dv 4 (fun k => bt n (2 * k + 1)) (m + 1) := by
    rw [e1]
    exact dv_mask (s := 1) (by decide) (m + 1) _ (fun k => by have := bt_le n (k + 1); omega) (fun k => a1 _ (bt_le _ _))
  have e4 : n = dv 4 (fun k => bt n (2 * k + 1)) (m + 1) + dv 4 (s4 n) (m + 1) := by
    rw [dv_add]
    conv => lhs; rw [← e0]
    refine (dv_two (m + 1) _).trans (dv_congr (fun k hk => ?_))
    unfold s4
    omega
  rw [e3]
  omega
theorem bc2 (m : Nat) {n : Nat} (h0 : s4 n (2 * (m + 1)) = 0) : (dv 4 (s4 n) (2 * (m + 1)) &&& dv (2 ^ 2) (alt 3) (2 * (m + 1))) + (dv 4 (s4 n) (2 * (m + 1)) / 4 &&& dv (2 ^ 2) (alt 3) (2 * (m + 1))) = dv 16 (s16 n) (m + 1) := by
  have l4 : ∀ k, s4 n k < 2 ^ 2 := fun k => by have := s4_le n k; omega
  have e1 := dv_mask (s := 2) (v := 3) (by decide) (m + 1) (s4 n) l4 (fun k => a3 _ (l4 k))
  have e2 : dv 4 (s4 n) (2 * (m + 1)) / 4 = dv 4 (fun k => s4 n (k + 1)) (2 * (m + 1)) := dv_shift (m := 2 * m + 1) (l4 0) h0
  have e3 := dv_mask (s := 2) (v := 3) (by decide) (m + 1) (fun k => s4 n (k + 1)) (fun k => l4 _) (fun k => a3 _ (l4 _))
  rw [e2]
  refine (congr (congrArg HAdd.hAdd e1) e3).trans ((dv_add _ _ _).trans (dv_congr (fun k hk => ?_)))
  rfl
theorem bc3 (m : Nat) {n : Nat} (h0 : s16 n (2 * (m + 1)) = 0) : (dv 16 (s16 n) (2 * (m + 1)) + dv 16 (s16 n) (2 * (m + 1)) / 16) &&& dv (2 ^ 4) (alt 15) (2 * (m + 1)) = dv 256 (s256 n) (m + 1) := by
  have l4 : ∀ k, s16 n k ≤ 4 := fun k => s16_le n k
  have e2 : dv 16 (s16 n) (2 * (m + 1)) / 16 = dv 16 (fun k => s16 n (k + 1)) (2 * (m + 1)) := dv_shift (m := 2 * m + 1) (by have := l4 0; omega) h0
  have l8 : ∀ k, s16 n k + s16 n (k + 1) < 2 ^ 4 := fun k => by have := l4 k; have := l4 (k + 1); omega
  rw [e2, dv_add]
  exact dv_mask (s := 4) (v := 15) (by decide) (m + 1) (fun k => s16 n k + s16 n (k + 1)) l8 (fun k => a15 _ (l8 k))
theorem bc4 {d : Nat → Nat} (h : ∀ k, d k ≤ 8) : (dv 256 d 8 + dv 256 d 8 / 256 + (dv 256 d 8 + dv 256 d 8 / 256) / 65536 + (dv 256 d 8 + dv 256 d 8 / 256 + (dv 256 d 8 + dv 256 d 8 / 256) / 65536) / 4294967296) % 128 = d 0 + d 1 + d 2 + d 3 + d 4 + d 5 + d 6 + d 7 ∧ dv 256 d 8 < 2 ^ 60 := by
  have e := dv_8 d
  have h0 := h 0; have h1 := h 1; have h2 := h 2; have h3 := h 3; have h4 := h 4; have h5 := h 5; have h6 := h 6; have h7 := h 7
  generalize dv 256 d 8 = z at *
  generalize d 0 = x0 at *
  generalize d 1 = x1 at *
  generalize d 2 = x2 at *
  generalize d 3 = x3 at *
  generalize d 4 = x4 at *
  generalize d 5 = x5 at *
  generalize d 6 = x6 at *
  generalize d 7 = x7 at *
  clear h
  obtain ⟨A, hA, hA2⟩ : ∃ A, A = x1 + 256 * (x2 + 256 * (x3 + 256 * (x4 + 256 * (x5 + 256 * (x6 + 256 * x7))))) ∧ z = x0 + 256 * A := ⟨_, rfl, e⟩
  have hz : z < 2 ^ 60 := by omega
  obtain ⟨B, hB, hB2⟩ : ∃ B, B = x2 + 256 * (x3 + 256 * (x4 + 256 * (x5 + 256 * (x6 + 256 * x7)))) ∧ A = x1 + 256 * B := ⟨_, rfl, hA⟩
  obtain ⟨C, hC, hC2⟩ : ∃ C, C = (x3 + x4) + 256 * ((x4 + x5) + 256 * ((x5 + x6) + 256 * ((x6 + x7) + 256 * x7))) ∧ A + B = (x1 + x2) + 256 * ((x2 + x3) + 256 * C) := ⟨_, rfl, by omega⟩
  obtain ⟨D, hD, hD2⟩ : ∃ D, D = (x5 + x6 + x7) + 256 * ((x6 + x7) + 256 * x7) ∧ A + B + (x2 + x3 + 256 * C) / 256 = A + B + C := ⟨_, rfl, by omega⟩
  have k1 : z / 256 = A := by omega
  have k2 : (z + A) / 65536 = (x2 + x3) + 256 * C := by
    have : z + A = (x0 + x1) + 256 * (A + B) := by omega
    rw [this, hC2]
    clear hD2 hD hC2 hC hB2 hB hA2 hA e k1 this hz
    omega
  have k3 : (z + A + (x2 + x3 + 256 * C)) / 4294967296 = (x4 + x5 + x6 + x7) + 256 * D := by
    have g1 : z + A + (x2 + x3 + 256 * C) = (x0 + x1 + x2 + x3) + 256 * ((x1 + x2 + x3 + x4) + 256 * ((x2 + x3 + x4 + x5) + 256 * ((x3 + x4 + x5 + x6) + 256 * ((x4 + x5 + x6 + x7) + 256 * D)))) := by omega
    rw [g1]
    clear g1 hD2 hD hC2 hC hB2 hB hA2 hA e k1 k2 hz
    omega
  refine ⟨?_, hz⟩
  rw [k1, k2, k3, hA2, hB2]
  clear k1 k2 k3 hD2 hD hC2 hC hB2 hB hA2 hA e hz
  omega
theorem cN_congr {p q : Nat → Bool} : ∀ {k : Nat}, (∀ i, i < k → p i = q i) → cN p k = cN q k
  | 0, _ => rfl
  | k + 1, h => by unfold cN; rw [cN_congr (fun i hi => h i (by omega)), h k (by omega)]
theorem cN_s256 (n : Nat) : s256 n 0 + s256 n 1 + s256 n 2 + s256 n 3 + s256 n 4 + s256 n 5 + s256 n 6 + s256 n 7 = cN (fun k => n.testBit k) 64 := by
  simp only [s256, s16, s4, bt, cN, Nat.reduceMul, Nat.reduceAdd, Nat.zero_add, Nat.mul_zero, ← Nat.add_assoc]
theorem lN_and (a b : Nat) : lN a &&& lN b = lN (a &&& b) := by
  apply Int64.toBitVec_inj.mp
  rw [Int64.toBitVec_and]
  show BitVec.ofNat 64 a &&& BitVec.ofNat 64 b = BitVec.ofNat 64 (a &&& b)
  rw [BitVec.ofNat_and]
theorem lN_or (a b : Nat) : lN a ||| lN b = lN (a ||| b) := by
  apply Int64.toBitVec_inj.mp
  rw [Int64.toBitVec_or]
  show BitVec.ofNat 64 a ||| BitVec.ofNat 64 b = BitVec.ofNat 64 (a ||| b)
  rw [BitVec.ofNat_or]
theorem lN_shr {a k : Nat} (ha : a < 2 ^ 64) (hk : k < 64) : ((lN a).toUInt64 >>> ((nI k).toInt64.toUInt64 &&& Int64.toUInt64 63)).toInt64 = lN (a / 2 ^ k) := by
  have hs : ∀ w, w < 64 → (((nI w).toInt64.toUInt64 &&& Int64.toUInt64 63).toBitVec % 64).toNat = w := by decide +kernel
  apply Int64.toBitVec_inj.mp
  show ((lN a).toUInt64 >>> ((nI k).toInt64.toUInt64 &&& Int64.toUInt64 63)).toBitVec = BitVec.ofNat 64 (a / 2 ^ k)
  rw [UInt64.toBitVec_shiftRight]
  show (BitVec.ofNat 64 a) >>> (((nI k).toInt64.toUInt64 &&& Int64.toUInt64 63).toBitVec % 64) = _
  rw [BitVec.ushiftRight_eq', hs k hk]
  apply BitVec.eq_of_toNat_eq
  rw [BitVec.toNat_ushiftRight, BitVec.toNat_ofNat, BitVec.toNat_ofNat, Nat.mod_eq_of_lt ha, Nat.shiftRight_eq_div_pow, Nat.mod_eq_of_lt (Nat.lt_of_le_of_lt (Nat.div_le_self _ _) ha)]
theorem lN_of (x : Int64) : ∃ a, a < 2 ^ 64 ∧ x = lN a ∧ ∀ k, lbit x k = a.testBit k := by
  refine ⟨x.toBitVec.toNat, x.toBitVec.isLt, Int64.toBitVec_inj.mp ?_, fun k => rfl⟩
  show x.toBitVec = BitVec.ofNat 64 _
  rw [BitVec.ofNat_toNat, BitVec.setWidth_eq]
section BITS
variable {xl : Nat} {xs : Nat → Int32} {n : Nat} {h : Nat → PC}
def bc32 (x0 : Int32) : Int32 :=
  let x1 := x0 - ((x0.toUInt32 >>> (Int32.toUInt32 1 &&& Int32.toUInt32 31)).toInt32 &&& 1431655765)
  let x2 := (x1 &&& 858993459) + ((x1.toUInt32 >>> (Int32.toUInt32 2 &&& Int32.toUInt32 31)).toInt32 &&& 858993459)
  let x3 := (x2 + (x2.toUInt32 >>> (Int32.toUInt32 4 &&& Int32.toUInt32 31)).toInt32) &&& 252645135
  let x4 := x3 + (x3.toUInt32 >>> (Int32.toUInt32 8 &&& Int32.toUInt32 31)).toInt32
  let x5 := x4 + (x4.toUInt32 >>> (Int32.toUInt32 16 &&& Int32.toUInt32 31)).toInt32
  x5 &&& 63
theorem bc32_v : ∀ w, w < 64 → bc32 (nI w) = nI (pop 6 w) := by decide +kernel
theorem c_bitI {w : Nat} (hw : w < 64) : Rn xl xs 0 0 0 0 mJ6_bitCount_0f7a4 [.int (nI w)] n h (some (.int (nI (pop 6 w)))) n h := by
  intro Q hQ
  show Ev xl xs 0 0 0 0 mJ6_bitCount_0f7a4 0 [some (.int (nI w))] [] n h Q
  refine ev_iload_n (q := 1) dJ6_bitCount_0f7a4_0 rfl rfl ?_
  refine ev_iload_n (q := 2) dJ6_bitCount_0f7a4_1 rfl rfl ?_
  refine ev_iconst (q := 3) (1) dJ6_bitCount_0f7a4_2 (by decide) rfl ?_
  refine ev_iushr (q := 4) dJ6_bitCount_0f7a4_3 rfl ?_
  refine ev_ldcw (q := 7) co_J6_265 dJ6_bitCount_0f7a4_4 rfl ?_
  refine ev_iand (q := 8) dJ6_bitCount_0f7a4_7 rfl ?_
  refine ev_isub (q := 9) dJ6_bitCount_0f7a4_8 rfl ?_
  refine ev_ist_0 (q := 10) dJ6_bitCount_0f7a4_9 rfl ?_
  refine ev_iload_n (q := 11) dJ6_bitCount_0f7a4_10 rfl rfl ?_
  refine ev_ldcw (q := 14) co_J6_266 dJ6_bitCount_0f7a4_11 rfl ?_
  refine ev_iand (q := 15) dJ6_bitCount_0f7a4_14 rfl ?_
  refine ev_iload_n (q := 16) dJ6_bitCount_0f7a4_15 rfl rfl ?_
  refine ev_iconst (q := 17) (2) dJ6_bitCount_0f7a4_16 (by decide) rfl ?_
  refine ev_iushr (q := 18) dJ6_bitCount_0f7a4_17 rfl ?_
  refine ev_ldcw (q := 21) co_J6_266 dJ6_bitCount_0f7a4_18 rfl ?_
  refine ev_iand (q := 22) dJ6_bitCount_0f7a4_21 rfl ?_
  refine ev_iadd (q := 23) dJ6_bitCount_0f7a4_22 rfl ?_
  refine ev_ist_0 (q := 24) dJ6_bitCount_0f7a4_23 rfl ?_
  refine ev_iload_n (q := 25) dJ6_bitCount_0f7a4_24 rfl rfl ?_
  refine ev_iload_n (q := 26) dJ6_bitCount_0f7a4_25 rfl rfl ?_
  refine ev_iconst (q := 27) (4) dJ6_bitCount_0f7a4_26 (by decide) rfl ?_
  refine ev_iushr (q := 28) dJ6_bitCount_0f7a4_27 rfl ?_
  refine ev_iadd (q := 29) dJ6_bitCount_0f7a4_28 rfl ?_
  refine ev_ldcw (q := 32) co_J6_267 dJ6_bitCount_0f7a4_29 rfl ?_
  refine ev_iand (q := 33) dJ6_bitCount_0f7a4_32 rfl ?_
  refine ev_ist_0 (q := 34) dJ6_bitCount_0f7a4_33 rfl ?_
  refine ev_iload_n (q := 35) dJ6_bitCount_0f7a4_34 rfl rfl ?_
  refine ev_iload_n (q := 36) dJ6_bitCount_0f7a4_35 rfl rfl ?_
  refine ev_bipush (q := 38) (8) dJ6_bitCount_0f7a4_36 (by decide) rfl ?_
  refine ev_iushr (q := 39) dJ6_bitCount_0f7a4_38 rfl ?_
  refine ev_iadd (q := 40) dJ6_bitCount_0f7a4_39 rfl ?_
  refine ev_ist_0 (q := 41) dJ6_bitCount_0f7a4_40 rfl ?_
  refine ev_iload_n (q := 42) dJ6_bitCount_0f7a4_41 rfl rfl ?_
  refine ev_iload_n (q := 43) dJ6_bitCount_0f7a4_42 rfl rfl ?_
  refine ev_bipush (q := 45) (16) dJ6_bitCount_0f7a4_43 (by decide) rfl ?_
  refine ev_iushr (q := 46) dJ6_bitCount_0f7a4_45 rfl ?_
  refine ev_iadd (q := 47) dJ6_bitCount_0f7a4_46 rfl ?_
  refine ev_ist_0 (q := 48) dJ6_bitCount_0f7a4_47 rfl ?_
  refine ev_iload_n (q := 49) dJ6_bitCount_0f7a4_48 rfl rfl ?_
  refine ev_bipush (q := 51) (63) dJ6_bitCount_0f7a4_49 (by decide) rfl ?_
  refine ev_iand (q := 52) dJ6_bitCount_0f7a4_51 rfl ?_
  exact ev_iretE dJ6_bitCount_0f7a4_52 rfl rfl (bc32_v w hw) rfl rfl hQ
theorem c_bitL (x : Int64) : Rn xl xs 0 0 0 0 mJ13_bitCount_95d88 [.long x] n h (some (.int (nI (cN (lbit x) 64)))) n h := by
  intro Q hQ
  obtain ⟨a, ha, rfl, hb⟩ := lN_of x
  have hr : nI (cN (lbit (lN a)) 64) = nI (s256 a 0 + s256 a 1 + s256 a 2 + s256 a 3 + s256 a 4 + s256 a 5 + s256 a 6 + s256 a 7) := by rw [cN_s256, cN_congr (fun k _ => hb k)]
  rw [hr] at hQ
  have h1 : a - (a / 2 &&& 6148914691236517205) = dv 4 (s4 a) 32 := by rw [M1v]; exact bc1 31 ha
  have h2 : (dv 4 (s4 a) 32 &&& 3689348814741910323) + (dv 4 (s4 a) 32 / 4 &&& 3689348814741910323) = dv 16 (s16 a) 16 := by rw [M2v]; exact bc2 15 (s4_hi ha (by decide))
  have h3 : (dv 16 (s16 a) 16 + dv 16 (s16 a) 16 / 16) &&& 1085102592571150095 = dv 256 (s256 a) 8 := by rw [M3v]; exact bc3 7 (s16_hi ha (by decide))
  have hl4 : dv 4 (s4 a) 32 < 2 ^ 64 := by have := dv_lt (B := 4) 32 (s4 a) (fun k _ => by have := s4_le a k; omega); rw [show (4 : Nat) ^ 32 = 2 ^ 64 by decide] at this; exact this
  have hl16 : dv 16 (s16 a) 16 < 2 ^ 64 := by have := dv_lt (B := 16) 16 (s16 a) (fun k _ => by have := s16_le a k; omega); rw [show (16 : Nat) ^ 16 = 2 ^ 64 by decide] at this; exact this
  obtain ⟨h4, hl256⟩ := bc4 (fun k => s256_le a k)
  generalize dv 4 (s4 a) 32 = y4 at h1 h2 hl4
  generalize dv 16 (s16 a) 16 = y16 at h2 h3 hl16
  generalize dv 256 (s256 a) 8 = z at h3 h4 hl256
  show Ev xl xs 0 0 0 0 mJ13_bitCount_95d88 0 [some (.long (lN a)), none] [] n h Q
  refine ev_lload_n (q := 1) dJ13_bitCount_95d88_0 rfl rfl ?_
  refine ev_lload_n (q := 2) dJ13_bitCount_95d88_1 rfl rfl ?_
  refine ev_iconst (q := 3) (1) dJ13_bitCount_95d88_2 (by decide) rfl ?_
  refine ev_lushr (q := 4) dJ13_bitCount_95d88_3 rfl ?_
  rw [show (1 : Int32) = nI 1 from rfl, lN_shr ha (by decide)]
  refine ev_ldc2 (q := 7) co_J13_314 dJ13_bitCount_95d88_4 rfl ?_
  refine ev_land (q := 8) dJ13_bitCount_95d88_7 rfl ?_
  refine ev_lsub (q := 9) dJ13_bitCount_95d88_8 rfl ?_
  rw [show (6148914691236517205 : Int64) = lN 6148914691236517205 from rfl, lN_and, lN_sub (Nat.le_trans Nat.and_le_left (Nat.div_le_self _ _)), show a / 2 ^ 1 = a / 2 from rfl, h1]
  refine ev_lst_0 (q := 10) dJ13_bitCount_95d88_9 rfl ?_
  refine ev_lload_n (q := 11) dJ13_bitCount_95d88_10 rfl rfl ?_
  refine ev_ldc2 (q := 14) co_J13_316 dJ13_bitCount_95d88_11 rfl ?_
  refine ev_land (q := 15) dJ13_bitCount_95d88_14 rfl ?_
  refine ev_lload_n (q := 16) dJ13_bitCount_95d88_15 rfl rfl ?_
  refine ev_iconst (q := 17) (2) dJ13_bitCount_95d88_16 (by decide) rfl ?_
  refine ev_lushr (q := 18) dJ13_bitCount_95d88_17 rfl ?_
  refine ev_ldc2 (q := 21) co_J13_316 dJ13_bitCount_95d88_18 rfl ?_
  refine ev_land (q := 22) dJ13_bitCount_95d88_21 rfl ?_
  refine ev_ladd (q := 23) dJ13_bitCount_95d88_22 rfl ?_
  rw [show (3689348814741910323 : Int64) = lN 3689348814741910323 from rfl, show (2 : Int32) = nI 2 from rfl, lN_shr hl4 (by decide), lN_and, lN_and, lN_add, show y4 / 2 ^ 2 = y4 / 4 from rfl, h2]
  refine ev_lst_0 (q := 24) dJ13_bitCount_95d88_23 rfl ?_
  refine ev_lload_n (q := 25) dJ13_bitCount_95d88_24 rfl rfl ?_
  refine ev_lload_n (q := 26) dJ13_bitCount_95d88_25 rfl rfl ?_
  refine ev_iconst (q := 27) (4) dJ13_bitCount_95d88_26 (by decide) rfl ?_
  refine ev_lushr (q := 28) dJ13_bitCount_95d88_27 rfl ?_
  refine ev_ladd (q := 29) dJ13_bitCount_95d88_28 rfl ?_
  refine ev_ldc2 (q := 32) co_J13_318 dJ13_bitCount_95d88_29 rfl ?_
  refine ev_land (q := 33) dJ13_bitCount_95d88_32 rfl ?_
  rw [show (1085102592571150095 : Int64) = lN 1085102592571150095 from rfl, show (4 : Int32) = nI 4 from rfl, lN_shr hl16 (by decide), lN_add, lN_and, show y16 / 2 ^ 4 = y16 / 16 from rfl, h3]
  refine ev_lst_0 (q := 34) dJ13_bitCount_95d88_33 rfl ?_
  refine ev_lload_n (q := 35) dJ13_bitCount_95d88_34 rfl rfl ?_
  refine ev_lload_n (q := 36) dJ13_bitCount_95d88_35 rfl rfl ?_
  refine ev_bipush (q := 38) (8) dJ13_bitCount_95d88_36 (by decide) rfl ?_
  refine ev_lushr (q := 39) dJ13_bitCount_95d88_38 rfl ?_
  refine ev_ladd (q := 40) dJ13_bitCount_95d88_39 rfl ?_
  rw [show (8 : Int32) = nI 8 from rfl, lN_shr (by omega) (by decide), lN_add]
  refine ev_lst_0 (q := 41) dJ13_bitCount_95d88_40 rfl ?_
  refine ev_lload_n (q := 42) dJ13_bitCount_95d88_41 rfl rfl ?_
  refine ev_lload_n (q := 43) dJ13_bitCount_95d88_42 rfl rfl ?_
  refine ev_bipush (q := 45) (16) dJ13_bitCount_95d88_43 (by decide) rfl ?_
  refine ev_lushr (q := 46) dJ13_bitCount_95d88_45 rfl ?_
  refine ev_ladd (q := 47) dJ13_bitCount_95d88_46 rfl ?_
  rw [show (16 : Int32) = nI 16 from rfl, lN_shr (by omega) (by decide), lN_add]
  refine ev_lst_0 (q := 48) dJ13_bitCount_95d88_47 rfl ?_
  refine ev_lload_n (q := 49) dJ13_bitCount_95d88_48 rfl rfl ?_
  refine ev_lload_n (q := 50) dJ13_bitCount_95d88_49 rfl rfl ?_
  refine ev_bipush (q := 52) (32) dJ13_bitCount_95d88_50 (by decide) rfl ?_
  refine ev_lushr (q := 53) dJ13_bitCount_95d88_52 rfl ?_
  refine ev_ladd (q := 54) dJ13_bitCount_95d88_53 rfl ?_
  rw [show (32 : Int32) = nI 32 from rfl, lN_shr (by omega) (by decide), lN_add]
  refine ev_lst_0 (q := 55) dJ13_bitCount_95d88_54 rfl ?_
  refine ev_lload_n (q := 56) dJ13_bitCount_95d88_55 rfl rfl ?_
  refine ev_l2i (q := 57) dJ13_bitCount_95d88_56 rfl ?_
  rw [lN_i]
  refine ev_bipush (q := 59) (127) dJ13_bitCount_95d88_57 (by decide) rfl ?_
  refine ev_iand (q := 60) dJ13_bitCount_95d88_59 rfl ?_
  refine ev_iretE dJ13_bitCount_95d88_60 rfl rfl ?_ rfl rfl hQ
  rw [← h4]
  exact (pk_and _ 7 (by decide)).trans (congrArg nI ((congrArg (· % 128) (show (nI _).toBitVec.toNat = _ % 2 ^ 32 from BitVec.toNat_ofNat _ _)).trans (Nat.mod_mod_of_dvd _ (by decide))))
end BITS
