section MAKE
variable {xl : Nat} {xs : Nat → Int32} {F L B1 B2 : Nat} {M : Mt} {pc : Nat} {lv lv' : List (Option Value)} {st : List Value} {n : Nat} {h : Nat → PC} {Q : QT} {q : Nat}
def NC (own : String) (idx ci N : Nat) (fs : List Value) : Prop := ∃ (C : String) (T : u_T) (tf : Nat → FieldType), CI ci C T N tf ∧ Cond.classLink own idx C ∈ TB ∧ Cond.instantiable C N ∈ TB ∧ Cond.initialized C ∈ TB ∧ (∀ j, j < N → defaultValue (tf j) = vp_V fs j) ∧ okl 0 fs ∧ ∀ ad, fs.map (mv ad) = fs
theorem hs_push {D : va_G} {cA : Nat → ClassId} {sz : Nat} {zd ad : Nat → Nat} {n : Nat} {h : Nat → PC} {H H1 : Heap} {a : Nat} {c : PC} {e : va_E} (hn : n < 1000) (hH : Hs D cA sz zd ad n h H) (ho : okc 0 c) (he : mcell cA (va_up ad n a) c = e) (hP : va_P D vwCl (wsOf cA ad n h ++ [(a, e)]) H1) (hD : va_D (fun q => sz ≤ q) (wsOf cA ad n h ++ [(a, e)])) : Hs D cA sz zd (va_up ad n a) (n + 1) (hup h n c) H1 := by
  rw [wsOf_push hn hH.2.1 he] at hP hD
  refine ⟨by omega, fun k hk => ?_, hP, hD, fun k hk => ?_⟩
  · unfold hup
    split
    · exact okc_mono (Nat.zero_le _) ho
    · exact okc_mono (Nat.le_succ _) (hH.2.1 k (by omega))
  · have : k ≠ n := by omega
    simp only [va_up, this, if_false]
    exact hH.2.2.2.2 k hk
theorem ext_push {n0 n : Nat} {ad0 ad : Nat → Nat} (hn : n < 1000) (a : Nat) (h : Ext n0 ad0 n ad) : Ext n0 ad0 (n + 1) (va_up ad n a) := h.tr ⟨by omega, fun q hq => by
  have : q ≠ n := by omega
  simp [va_up, this]⟩
theorem push_ag {n : Nat} {ad : Nat → Nat} (hn : n < 1000) (a : Nat) : ∀ x, (x < n ∨ 1000 ≤ x) → va_up ad n a x = ad x := fun x hx => by
  have : x ≠ n := by omega
  simp [va_up, this]
theorem lh_ag {ls : Array Slot} {nL n : Nat} {ad ad' : Nat → Nat} {lv : List (Option Value)} (hag : ∀ x, (x < n ∨ 1000 ≤ x) → ad' x = ad x) (o1 : okL n lv) (hl : LH ls nL ad lv) : LH ls nL ad' lv := ⟨hl.1, hl.2.1, fun i w hi => by
    rw [mv_eq hag (o1 w (List.mem_of_getElem? hi))]
    exact hl.2.2 i w hi⟩
theorem ev_new {idx ci N : Nat} {fs : List Value} (d : decode M.2.1 pc = .ok (.new idx, 3)) (nc : NC M.1.cls idx ci N fs) (hn : n < 1000) (hb1 : 1 ≤ B1) (hb2 : N ≤ B2) (hq : pc + 3 = q) (k : Ev xl xs F L (B1 - 1) (B2 - N) M q lv (.ref n :: st) (n + 1) (hup h n (.inr (ci, fs))) Q) : Ev xl xs F L B1 B2 M pc lv st n h Q := by
  subst hq
  obtain ⟨C0, T, tf, ⟨c1, c2, c3, c4⟩, w1, w2, w3, hfs, ho, hm⟩ := nc
  intro p l e R s m args below meth cc Z D cA sz zd n0 ad0 CM SM C ad H locs cells slots ls hH hE hS h1 h2 hl o1 o2
  have hR := C.hR
  refine va_new (D := D) (ci := ci) (fs := fs) (C := C0) (T := T) (N := N) C.hx C.hb C.ts c2 tf c3 C.own (C.ts _ w1) (C.ts _ w2) (C.ts _ w3) C.hK hH.2.2.1 hH.2.2.2.1 hS C.hA c1 hfs (by omega) (by omega) d (fun a H1 hP hD hS1 => ?_)
  have hag := push_ag (ad := ad) hn a
  have kk := k _ _ _ _ _ _ _ _ _ _ _ _ _ _ _ _ _ _ _ C (va_up ad n a) H1 locs (cells + 1) (slots + N) ls (hs_push hn hH (c := .inr (ci, fs)) ho (by show (Sum.inr (ci, fs.map (mv (va_up ad n a))) : va_E) = _; rw [hm]) hP hD) (ext_push hn a hE) hS1 (by omega) (by omega) (lh_ag hag o1 hl) (okL_mono (Nat.le_succ _) o1) (okl_c (show okv (n + 1) (.ref n) from Or.inl (Nat.lt_succ_self n)) (okl_mono (Nat.le_succ _) o2))
  rw [List.map_cons, mvl_eq hag o2] at kk
  have e9 : mv (va_up ad n a) (.ref n) = .ref a := by show Value.ref (va_up ad n a n) = _; simp [va_up]
  rw [e9] at kk
  exact kk
theorem ev_newI {i : Int32} {N' : Nat} (d : decode M.2.1 pc = .ok (.newarray .int, 2)) (hw : Cond.arrayClass .int ∈ TB) (hi : ¬ i < 0) (hN : i.toNatClampNeg = N') (hN2 : N' ≤ 1000) (hn : n < 1000) (hb1 : 1 ≤ B1) (hb2 : N' ≤ B2) (hq : pc + 2 = q) (k : Ev xl xs F L (B1 - 1) (B2 - N') M q lv (.ref n :: st) (n + 1) (hup h n (.inl (0, N', .inl (fun _ => 0)))) Q) : Ev xl xs F L B1 B2 M pc lv (.int i :: st) n h Q := by
  subst hq
  intro p l e R s m args below meth cc Z D cA sz zd n0 ad0 CM SM C ad H locs cells slots ls hH hE hS h1 h2 hl o1 o2
  have hR := C.hR
  refine va_newa (D := D) (atype := .int) (ty := .int) (a0 := (N', .inl (fun _ => 0))) C.hx C.hb (C.ts _ hw) rfl C.hK hH.2.2.1 hH.2.2.2.1 hS C.hA (fun _ => rfl) hi hN (Nat.le_trans (Nat.mul_le_mul hN2 (show componentBytes .int ≤ 8 by decide)) (by decide)) (by omega) (by omega) d (fun a cX H1 hK1 hP hD hS1 => ?_)
  have ecx : cX = cA 0 := by
    have r1 := (C.hK.2 0 _ rfl).2
    have r2 := (hK1.2 4 _ rfl).2
    exact Option.some.inj ((show s.vm.findClass _ = some cX from r2).symm.trans (show s.vm.findClass _ = some (cA 0) from r1))
  subst ecx
  have hag := push_ag (ad := ad) hn a
  have kk := k _ _ _ _ _ _ _ _ _ _ _ _ _ _ _ _ _ _ _ C (va_up ad n a) H1 locs (cells + 1) (slots + N') ls (hs_push hn hH (c := .inl (0, N', .inl (fun _ => 0))) trivial rfl hP hD) (ext_push hn a hE) hS1 (by omega) (by omega) (lh_ag hag o1 hl) (okL_mono (Nat.le_succ _) o1) (okl_c (show okv (n + 1) (.ref n) from Or.inl (Nat.lt_succ_self n)) (okl_mono (Nat.le_succ _) (okl_t o2)))
  rw [List.map_cons, mvl_eq hag (okl_t o2)] at kk
  have e9 : mv (va_up ad n a) (.ref n) = .ref a := by show Value.ref (va_up ad n a n) = _; simp [va_up]
  rw [e9] at kk
  exact kk
theorem ev_newZ {i : Int32} {N' : Nat} (d : decode M.2.1 pc = .ok (.newarray .boolean, 2)) (hw : Cond.arrayClass .boolean ∈ TB) (hi : ¬ i < 0) (hN : i.toNatClampNeg = N') (hN2 : N' ≤ 1000) (hn : n < 1000) (hb1 : 1 ≤ B1) (hb2 : N' ≤ B2) (hq : pc + 2 = q) (k : Ev xl xs F L (B1 - 1) (B2 - N') M q lv (.ref n :: st) (n + 1) (hup h n (.inl (2, N', .inl (fun _ => 0)))) Q) : Ev xl xs F L B1 B2 M pc lv (.int i :: st) n h Q := by
  subst hq
  intro p l e R s m args below meth cc Z D cA sz zd n0 ad0 CM SM C ad H locs cells slots ls hH hE hS h1 h2 hl o1 o2
  have hR := C.hR
  refine va_newa (D := D) (atype := .boolean) (ty := .boolean) (a0 := (N', .inl (fun _ => 0))) C.hx C.hb (C.ts _ hw) rfl C.hK hH.2.2.1 hH.2.2.2.1 hS C.hA (fun _ => rfl) hi hN (Nat.le_trans (Nat.mul_le_mul hN2 (show componentBytes .boolean ≤ 8 by decide)) (by decide)) (by omega) (by omega) d (fun a cX H1 hK1 hP hD hS1 => ?_)
  have ecx : cX = cA 2 := by
    have r1 := (C.hK.2 2 _ rfl).2
    have r2 := (hK1.2 4 _ rfl).2
    exact Option.some.inj ((show s.vm.findClass _ = some cX from r2).symm.trans (show s.vm.findClass _ = some (cA 2) from r1))
  subst ecx
  have hag := push_ag (ad := ad) hn a
  have kk := k _ _ _ _ _ _ _ _ _ _ _ _ _ _ _ _ _ _ _ C (va_up ad n a) H1 locs (cells + 1) (slots + N') ls (hs_push hn hH (c := .inl (2, N', .inl (fun _ => 0))) trivial rfl hP hD) (ext_push hn a hE) hS1 (by omega) (by omega) (lh_ag hag o1 hl) (okL_mono (Nat.le_succ _) o1) (okl_c (show okv (n + 1) (.ref n) from Or.inl (Nat.lt_succ_self n)) (okl_mono (Nat.le_succ _) (okl_t o2)))
  rw [List.map_cons, mvl_eq hag (okl_t o2)] at kk
  have e9 : mv (va_up ad n a) (.ref n) = .ref a := by show Value.ref (va_up ad n a n) = _; simp [va_up]
  rw [e9] at kk
  exact kk
theorem ev_newJ {i : Int32} {N' : Nat} (d : decode M.2.1 pc = .ok (.newarray .long, 2)) (hw : Cond.arrayClass .long ∈ TB) (hi : ¬ i < 0) (hN : i.toNatClampNeg = N') (hN2 : N' ≤ 1000) (hn : n < 1000) (hb1 : 1 ≤ B1) (hb2 : N' ≤ B2) (hq : pc + 2 = q) (k : Ev xl xs F L (B1 - 1) (B2 - N') M q lv (.ref n :: st) (n + 1) (hup h n (.inl (1, N', .inr (.inl (fun _ => 0))))) Q) : Ev xl xs F L B1 B2 M pc lv (.int i :: st) n h Q := by
  subst hq
  intro p l e R s m args below meth cc Z D cA sz zd n0 ad0 CM SM C ad H locs cells slots ls hH hE hS h1 h2 hl o1 o2
  have hR := C.hR
  refine va_newa (D := D) (atype := .long) (ty := .long) (a0 := (N', .inr (.inl (fun _ => 0)))) C.hx C.hb (C.ts _ hw) rfl C.hK hH.2.2.1 hH.2.2.2.1 hS C.hA (fun _ => rfl) hi hN (Nat.le_trans (Nat.mul_le_mul hN2 (show componentBytes .long ≤ 8 by decide)) (by decide)) (by omega) (by omega) d (fun a cX H1 hK1 hP hD hS1 => ?_)
  have ecx : cX = cA 1 := by
    have r1 := (C.hK.2 1 _ rfl).2
    have r2 := (hK1.2 4 _ rfl).2
    exact Option.some.inj ((show s.vm.findClass _ = some cX from r2).symm.trans (show s.vm.findClass _ = some (cA 1) from r1))
  subst ecx
  have hag := push_ag (ad := ad) hn a
  have kk := k _ _ _ _ _ _ _ _ _ _ _ _ _ _ _ _ _ _ _ C (va_up ad n a) H1 locs (cells + 1) (slots + N') ls (hs_push hn hH (c := .inl (1, N', .inr (.inl (fun _ => 0)))) trivial rfl hP hD) (ext_push hn a hE) hS1 (by omega) (by omega) (lh_ag hag o1 hl) (okL_mono (Nat.le_succ _) o1) (okl_c (show okv (n + 1) (.ref n) from Or.inl (Nat.lt_succ_self n)) (okl_mono (Nat.le_succ _) (okl_t o2)))
  rw [List.map_cons, mvl_eq hag (okl_t o2)] at kk
  have e9 : mv (va_up ad n a) (.ref n) = .ref a := by show Value.ref (va_up ad n a n) = _; simp [va_up]
  rw [e9] at kk
  exact kk
theorem ev_newA {idx : Nat} {i : Int32} {N' : Nat} (d : decode M.2.1 pc = .ok (.anewarray idx, 3)) (hw : Cond.classLink M.1.cls idx "WishLamp$State" ∈ TB) (hi : ¬ i < 0) (hN : i.toNatClampNeg = N') (hN2 : N' ≤ 1000) (hn : n < 1000) (hb1 : 1 ≤ B1) (hb2 : N' ≤ B2) (hq : pc + 3 = q) (k : Ev xl xs F L (B1 - 1) (B2 - N') M q lv (.ref n :: st) (n + 1) (hup h n (.inl (3, N', .inr (.inr (.inr (.inr (fun _ => none))))))) Q) : Ev xl xs F L B1 B2 M pc lv (.int i :: st) n h Q := by
  subst hq
  intro p l e R s m args below meth cc Z D cA sz zd n0 ad0 CM SM C ad H locs cells slots ls hH hE hS h1 h2 hl o1 o2
  have hR := C.hR
  refine va_newq (D := D) (C := "WishLamp$State") C.hx C.hb C.own (C.ts _ hw) C.ao C.hK hH.2.2.1 hH.2.2.2.1 hS C.hA hi hN (by omega) (by omega) (by omega) d (fun a cX H1 hK1 hP hD hS1 => ?_)
  have ecx : cX = cA 3 := by
    obtain ⟨_, _, _, _, _, r1⟩ := (C.hK.2 3 _ rfl).2
    obtain ⟨_, _, _, _, _, r2⟩ := (hK1.2 4 _ rfl).2
    exact Option.some.inj (r2.symm.trans r1)
  subst ecx
  have hag := push_ag (ad := ad) hn a
  have kk := k _ _ _ _ _ _ _ _ _ _ _ _ _ _ _ _ _ _ _ C (va_up ad n a) H1 locs (cells + 1) (slots + N') ls (hs_push hn hH (c := .inl (3, N', .inr (.inr (.inr (.inr (fun _ => none)))))) (fun j q hj => by cases hj) rfl hP hD) (ext_push hn a hE) hS1 (by omega) (by omega) (lh_ag hag o1 hl) (okL_mono (Nat.le_succ _) o1) (okl_c (show okv (n + 1) (.ref n) from Or.inl (Nat.lt_succ_self n)) (okl_mono (Nat.le_succ _) (okl_t o2)))
  rw [List.map_cons, mvl_eq hag (okl_t o2)] at kk
  have e9 : mv (va_up ad n a) (.ref n) = .ref a := by show Value.ref (va_up ad n a n) = _; simp [va_up]
  rw [e9] at kk
  exact kk
theorem ev_obj {idx a : Nat} (d : decode M.2.1 pc = .ok (.invokespecial idx, 3)) (w1 : Cond.methodLink M.1.cls idx objectInit ∈ TB) (w2 : Cond.instanceMethod objectInit ∈ TB) (w3 : Cond.code objectInit ⟨#[0xb1]⟩ 1 none ∈ TB) (hF : 1 ≤ F) (hL : (st.map fun v => v.category).sum + 12 ≤ L) (hq : pc + 3 = q) (k : Ev xl xs F L B1 B2 M q lv st n h Q) : Ev xl xs F L B1 B2 M pc lv (.ref a :: st) n h Q := by
  subst hq
  intro p l e R s m args below meth cc Z D cA sz zd n0 ad0 CM SM C ad H locs cells slots ls hH hE hS h1 h2 hl o1 o2
  have hR := C.hR
  refine W.objInit C.hx C.hb C.own (C.ts _ w1) (C.ts _ w2) (C.ts _ w3) (g := F0 m pc ls (Value.ref (ad a) :: st.map (mv ad))) rfl (hl.1.1.trans C.hml.symm) (a := ad a) (rest := st.map (mv ad)) rfl d (Nat.le_trans hF hR.1) ?_ (k _ _ _ _ _ _ _ _ _ _ _ _ _ _ _ _ _ _ _ C ad H locs cells slots ls hH hE hS h1 h2 hl o1 (okl_t o2))
  rw [cats_map]
  show 2 * 0 + _ + 12 ≤ _
  omega
def arrC : Prop := Cond.native arraycopyName ∈ TB ∧ Cond.static arraycopyName ∈ TB ∧ Cond.initialized "java/lang/System" ∈ TB
theorem ev_copyI {idx a b na nb : Nat} {f g : Nat → Int32} {sp dp len : Int32} (d : decode M.2.1 pc = .ok (.invokestatic idx, 3)) (w0 : Cond.methodLink M.1.cls idx arraycopyName ∈ TB) (w : arrC) (ha : h a = .inl (0, na, .inl f)) (han : a < n) (hb : h b = .inl (0, nb, .inl g)) (hbn : b < n) (h1 : ¬ sp < 0) (h2 : ¬ dp < 0) (h3 : ¬ len < 0) (h4 : sp.toNatClampNeg + len.toNatClampNeg ≤ na) (h5 : dp.toNatClampNeg + len.toNatClampNeg ≤ nb) (hF : 1 ≤ F) (hL : (st.map fun v => v.category).sum + (nativeFrameWords "java/lang/System" "arraycopy" 5 + 11) ≤ L) (hq : pc + 3 = q)
    (k : Ev xl xs F L B1 B2 M q lv st n (hup h b (.inl (0, nb, .inl (va_cpy f g sp.toNatClampNeg dp.toNatClampNeg len.toNatClampNeg)))) Q) : Ev xl xs F L B1 B2 M pc lv (.int len :: .int dp :: .ref b :: .int sp :: .ref a :: st) n h Q := by
  subst hq
  intro p l e R s m args below meth cc Z D cA sz zd n0 ad0 CM SM C ad H locs cells slots ls hH hE hS g1 g2 hl o1 o2
  have hR := C.hR
  exact va_copyi (D := D) C.hx C.hb (C.hml.trans hl.1.1.symm) C.own (C.ts _ w0) (C.ts _ w.1) (C.ts _ w.2.1) (C.ts _ w.2.2) C.hK hH.2.2.1 hH.2.2.2.1 hS a b 0 0 (hs_at hH han ha) (hs_at hH hbn hb) rfl rfl rfl h1 h2 h3 h4 h5 (fun _ _ => rfl) (Nat.le_trans hF hR.1) (by rw [cats_map]; exact Nat.le_trans hL hR.2.1) d (fun H1 locs1 hP hD hS1 => k _ _ _ _ _ _ _ _ _ _ _ _ _ _ _ _ _ _ _ C ad H1 locs1 cells slots ls (hs_up hH (c := .inl (0, nb, .inl (va_cpy f g sp.toNatClampNeg dp.toNatClampNeg len.toNatClampNeg))) trivial rfl hP hD) hE hS1 g1 g2 hl o1 (okl_t (okl_t (okl_t (okl_t (okl_t o2))))))
theorem ev_copyJ {idx a b na nb : Nat} {f g : Nat → Int64} {sp dp len : Int32} (d : decode M.2.1 pc = .ok (.invokestatic idx, 3)) (w0 : Cond.methodLink M.1.cls idx arraycopyName ∈ TB) (w : arrC) (ha : h a = .inl (1, na, .inr (.inl f))) (han : a < n) (hb : h b = .inl (1, nb, .inr (.inl g))) (hbn : b < n) (h1 : ¬ sp < 0) (h2 : ¬ dp < 0) (h3 : ¬ len < 0) (h4 : sp.toNatClampNeg + len.toNatClampNeg ≤ na) (h5 : dp.toNatClampNeg + len.toNatClampNeg ≤ nb) (hF : 1 ≤ F) (hL : (st.map fun v => v.category).sum + (nativeFrameWords "java/lang/System" "arraycopy" 5 + 11) ≤ L) (hq : pc + 3 = q)
    (k : Ev xl xs F L B1 B2 M q lv st n (hup h b (.inl (1, nb, .inr (.inl (va_cpy f g sp.toNatClampNeg dp.toNatClampNeg len.toNatClampNeg))))) Q) : Ev xl xs F L B1 B2 M pc lv (.int len :: .int dp :: .ref b :: .int sp :: .ref a :: st) n h Q := by
  subst hq
  intro p l e R s m args below meth cc Z D cA sz zd n0 ad0 CM SM C ad H locs cells slots ls hH hE hS g1 g2 hl o1 o2
  have hR := C.hR
  exact va_copyl (D := D) C.hx C.hb (C.hml.trans hl.1.1.symm) C.own (C.ts _ w0) (C.ts _ w.1) (C.ts _ w.2.1) (C.ts _ w.2.2) C.hK hH.2.2.1 hH.2.2.2.1 hS a b 1 1 (hs_at hH han ha) (hs_at hH hbn hb) rfl rfl rfl h1 h2 h3 h4 h5 (fun _ _ => rfl) (Nat.le_trans hF hR.1) (by rw [cats_map]; exact Nat.le_trans hL hR.2.1) d (fun H1 locs1 hP hD hS1 => k _ _ _ _ _ _ _ _ _ _ _ _ _ _ _ _ _ _ _ C ad H1 locs1 cells slots ls (hs_up hH (c := .inl (1, nb, .inr (.inl (va_cpy f g sp.toNatClampNeg dp.toNatClampNeg len.toNatClampNeg)))) trivial rfl hP hD) hE hS1 g1 g2 hl o1 (okl_t (okl_t (okl_t (okl_t (okl_t o2))))))
end MAKE
