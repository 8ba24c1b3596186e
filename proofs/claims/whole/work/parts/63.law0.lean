abbrev mLn (nm : String) : Mt := (⟨RL, nm, "([I)Z"⟩, cL_law, 4, (some .boolean))
section SCR4
variable {xl : Nat} {xs : Nat → Int32} {F L B1 B2 : Nat} {M : Mt} {pc : Nat} {lv : List (Option Value)} {st : List Value} {n : Nat} {Q : QT} {q : Nat} {I S : Nat → Nat → Int32} {J T : Nat → Nat → Int64} {X : Nat → Option Nat}
theorem ev_callV4iX {idx F' L' : Nat} {M' : Mt} {v0 v1 v2 v3 : Value} {b ci : Nat} {fs : List Value} {cr : vw_C} {r : Int32} {PS : (Nat → Nat → Int32) → (Nat → Nat → Int32) → (Nat → Nat → Int64) → (Nat → Nat → Int64) → Prop} (d : decode M.2.1 pc = .ok (.invokevirtual idx, 3)) (ca : CV M.1.cls idx M' 4) (hR : RnX xl xs F' L' M' [.ref b, v0, v1, v2, v3] n I S J T X (some (.int r)) PS) (hc : sysH (ov I S) (ovJ J T) X b = .inr (ci, fs)) (hbn : b < n) (hcr : vwCl[ci]? = some cr) (hcl : cr.1 = M'.1.cls) (hlen : (entA [.ref b, v0, v1, v2, v3]).length ≤ M'.2.2.1) (hw : (st.map fun v => v.category).sum ≤ 8) (hF : F' + 1 ≤ F) (hL : 19 + M'.2.2.1 + L' ≤ L) (hq : pc + 3 = q) (k : ∀ I S J T, PS I S J T → Ev xl xs F L B1 B2 M q lv (.int r :: st) n (sysH (ov I S) (ovJ J T) X) Q) : Ev xl xs F L B1 B2 M pc lv (v3 :: v2 :: v1 :: v0 :: .ref b :: st) n (sysH (ov I S) (ovJ J T) X) Q :=
  ev_callQV (As := [v0, v1, v2, v3]) (rest := st) (b1 := 0) (b2 := 0) (P := fun r2 n2 h2 => r2 = (some (.int r)) ∧ n2 = n ∧ ∃ I2 S2 J2 T2, PS I2 S2 J2 T2 ∧ h2 = sysH (ov I2 S2) (ovJ J2 T2) X) d ca rfl hc hbn hcr hcl hlen hw hF hL (Nat.zero_le _) (Nat.zero_le _) (hR _ (fun I2 S2 J2 T2 h9 => ⟨rfl, rfl, I2, S2, J2, T2, h9, rfl⟩)) hq (fun r2 n2 h2 hz => by obtain ⟨rfl, rfl, I2, S2, J2, T2, h9, rfl⟩ := hz; exact k I2 S2 J2 T2 h9)
theorem ev_callV2lX {idx F' L' : Nat} {M' : Mt} {v0 v1 : Value} {b ci : Nat} {fs : List Value} {cr : vw_C} {r : Int64} {PS : (Nat → Nat → Int32) → (Nat → Nat → Int32) → (Nat → Nat → Int64) → (Nat → Nat → Int64) → Prop} (d : decode M.2.1 pc = .ok (.invokevirtual idx, 3)) (ca : CV M.1.cls idx M' 2) (hR : RnX xl xs F' L' M' [.ref b, v0, v1] n I S J T X (some (.long r)) PS) (hc : sysH (ov I S) (ovJ J T) X b = .inr (ci, fs)) (hbn : b < n) (hcr : vwCl[ci]? = some cr) (hcl : cr.1 = M'.1.cls) (hlen : (entA [.ref b, v0, v1]).length ≤ M'.2.2.1) (hw : (st.map fun v => v.category).sum ≤ 8) (hF : F' + 1 ≤ F) (hL : 19 + M'.2.2.1 + L' ≤ L) (hq : pc + 3 = q) (k : ∀ I S J T, PS I S J T → Ev xl xs F L B1 B2 M q lv (.long r :: st) n (sysH (ov I S) (ovJ J T) X) Q) : Ev xl xs F L B1 B2 M pc lv (v1 :: v0 :: .ref b :: st) n (sysH (ov I S) (ovJ J T) X) Q :=
  ev_callQV (As := [v0, v1]) (rest := st) (b1 := 0) (b2 := 0) (P := fun r2 n2 h2 => r2 = (some (.long r)) ∧ n2 = n ∧ ∃ I2 S2 J2 T2, PS I2 S2 J2 T2 ∧ h2 = sysH (ov I2 S2) (ovJ J2 T2) X) d ca rfl hc hbn hcr hcl hlen hw hF hL (Nat.zero_le _) (Nat.zero_le _) (hR _ (fun I2 S2 J2 T2 h9 => ⟨rfl, rfl, I2, S2, J2, T2, h9, rfl⟩)) hq (fun r2 n2 h2 hz => by obtain ⟨rfl, rfl, I2, S2, J2, T2, h9, rfl⟩ := hz; exact k I2 S2 J2 T2 h9)
theorem ev_callQI {idx na b b1 b2 F' L' : Nat} {M' : Mt} {As rest : List Value} {h : Nat → PC} {P : QT} (d : decode M.2.1 pc = .ok (.invokespecial idx, 3)) (ca : CN M.1.cls idx M' na) (hn : As.length = na) (hlen : (entA (.ref b :: As)).length ≤ M'.2.2.1) (hw : (rest.map fun v => v.category).sum ≤ 8) (hF : F' + 1 ≤ F) (hL : 19 + M'.2.2.1 + L' ≤ L) (hb1 : b1 ≤ B1) (hb2 : b2 ≤ B2) (hR : RnQ xl xs F' L' b1 b2 M' (.ref b :: As) n h P) (hq : pc + 3 = q) (k : ∀ r n' h', P r n' h' → Ev xl xs F L (B1 - b1) (B2 - b2) M q lv (r.toList ++ rest) n' h' Q) : Ev xl xs F L B1 B2 M pc lv (As.reverse ++ .ref b :: rest) n h Q := by
  subst hq
  intro p l e R s m args below meth cc Z D cA sz zd n0 ad0 CM SM C ad H locs cells slots ls hH hE hS h1 h2 hl o1 o2
  have oA : okl n (.ref b :: As) := fun v hv => o2 v (by
    rcases List.mem_cons.mp hv with e | e
    · rw [e]; simp
    · simp [e])
  have oR : okl n rest := fun v hv => o2 v (by simp [hv])
  have hM := ev_met l D cA sz zd ad ca.1 hlen oA hR
  have hR' := C.hR
  obtain ⟨cb, hlk, hin, hnm, hre⟩ := ca
  rw [List.map_append, List.map_reverse, List.map_cons]
  exact ev_back C hE hS h1 h2 hb1 hb2 hl o1 oR (va_runI (As := As.map (mv ad)) (rest := rest.map (mv ad)) (Ts := TB) (own := M.1.cls) (n := na) (b := ad b) ⟨C.hx, C.hb, C.hml, C.own, C.ts⟩ hM ⟨callB_of na C.ts (wsM_good cb) (by unfold wsM; rw [hre]) rfl rfl (C.ts _ cb.2.1) (C.ts _ hlk) cb.2.2.1 (hR_of hR' hF hL), hnm, C.ts _ hin⟩ ⟨pcE_blind, pcE_at C hH hS⟩ rfl (by rw [List.length_map]; exact hn) hl.1.1 rfl (lv_room (by rw [cats_map]; exact hw)) d ⟨by omega, by omega⟩) k
end SCR4
theorem lg_self (Z : Int64) : lg_cmp Z Z = 0 := by
  have e : ¬ Z < Z := by rw [Int64.lt_iff_toInt_lt]; omega
  unfold lg_cmp
  simp [e]
theorem sc_in {xl i k : Nat} (h : i + k < xl) (hx : xl ≤ 320) : vp_in (nI i + nI k) xl := by rw [nI_add]; exact vin h (by omega)
theorem GI_n {n : Nat} {I : Nat → Nat → Int32} {J : Nat → Nat → Int64} {X : Nat → Option Nat} (h : GI n I J X) : 49 ≤ n := by
  obtain ⟨-, -, -, -, -, -, -, -, -, -, -, -, -, him⟩ := h
  exact IMGS_n him
