section MEM
variable {xl : Nat} {xs : Nat → Int32} {F L B1 B2 : Nat} {M : Mt} {pc : Nat} {lv lv' : List (Option Value)} {st : List Value} {n : Nat} {h : Nat → PC} {Q : QT} {q : Nat}
theorem hs_at {D : va_G} {cA : Nat → ClassId} {sz : Nat} {zd ad : Nat → Nat} {n : Nat} {h : Nat → PC} {H : Heap} {a : Nat} {c : PC} (_ : Hs D cA sz zd ad n h H) (ha : a < n) (hc : h a = c) : (wsOf cA ad n h)[a]? = some (ad a, mcell cA ad c) := by rw [wsOf_at ha, hc]
theorem hs_up {D : va_G} {cA : Nat → ClassId} {sz : Nat} {zd ad : Nat → Nat} {n : Nat} {h : Nat → PC} {H H1 : Heap} {a : Nat} {c : PC} {e : va_E} (hH : Hs D cA sz zd ad n h H) (ho : okc n c) (he : mcell cA ad c = e) (hP : va_P D vwCl ((wsOf cA ad n h).set a (ad a, e)) H1) (hD : va_D (fun q => sz ≤ q) ((wsOf cA ad n h).set a (ad a, e))) : Hs D cA sz zd ad n (hup h a c) H1 := by
  subst he
  rw [wsOf_set] at hP hD
  refine ⟨hH.1, fun k hk => ?_, hP, hD, hH.2.2.2.2⟩
  unfold hup
  split
  · exact ho
  · exact hH.2.1 k hk
theorem ev_get {idx ci j a : Nat} {fs : List Value} {v : Value} (d : decode M.2.1 pc = .ok (.getfield idx, 3)) (fa : FA0 M.1.cls idx ci j) (hc : h a = .inr (ci, fs)) (ha : a < n) (hv : fs[j]? = some v) (hq : pc + 3 = q) (k : Ev xl xs F L B1 B2 M q lv (v :: st) n h Q) : Ev xl xs F L B1 B2 M pc lv (.ref a :: st) n h Q := by
  subst hq
  obtain ⟨C0, T, N, tf, ⟨c1, c2, c3, c4⟩, hj, hlink⟩ := fa
  intro p l e R s m args below meth cc Z D cA sz zd n0 ad0 CM SM C ad H locs cells slots ls hH hE hS h1 h2 hl o1 o2
  have hok : okl n fs := by have := hH.2.1 a ha; rw [hc] at this; exact this
  exact va_get (D := D) (ci := ci) (v := mv ad v) (C := C0) (T := T) (N := N) C.hx C.hb C.ts c2 C.own C.hK hH.2.2.1 a (hs_at hH ha hc) c1 j hj (C.ts _ hlink) (fun _ h9 => h9) (by rw [List.getElem?_map, hv]; rfl) d
    (k _ _ _ _ _ _ _ _ _ _ _ _ _ _ _ _ _ _ _ C ad H locs cells slots ls hH hE hS h1 h2 hl o1 (okl_c (hok v (List.mem_of_getElem? hv)) (okl_t o2)))
theorem ev_put {idx ci j a : Nat} {fs : List Value} {v : Value} {ty : FieldType} (d : decode M.2.1 pc = .ok (.putfield idx, 3)) (fa : FA M.1.cls idx ci j ty false) (hc : h a = .inr (ci, fs)) (ha : a < n) (hj : j < fs.length) (hv : ∀ ad, narrow ty (mv ad v) = mv ad v ∧ fits ty (mv ad v) = true) (hq : pc + 3 = q) (k : Ev xl xs F L B1 B2 M q lv st n (hup h a (.inr (ci, fs.set j v))) Q) : Ev xl xs F L B1 B2 M pc lv (v :: .ref a :: st) n h Q := by
  subst hq
  obtain ⟨C0, T, N, tf, ⟨c1, c2, c3, c4⟩, hjn, hlink, e1, e2, -⟩ := fa
  intro p l e R s m args below meth cc Z D cA sz zd n0 ad0 CM SM C ad H locs cells slots ls hH hE hS h1 h2 hl o1 o2
  have hok : okl n fs := by have := hH.2.1 a ha; rw [hc] at this; exact this
  refine va_put (D := D) (ci := ci) (v := mv ad v) (ty := ty) (C := C0) (T := T) (N := N) C.hx C.hb C.ts c2 tf c3 c4 C.own C.hK hH.2.2.1 hH.2.2.2.1 hS a (hs_at hH ha hc) c1 j hjn (C.ts _ hlink) (fun _ h9 => h9) e2 (by rw [c3 j hjn, e1]) (hv ad).1 (hv ad).2 (by rw [List.length_map]; exact hj) d (fun H1 locs1 hP hD hS1 => ?_)
  refine k _ _ _ _ _ _ _ _ _ _ _ _ _ _ _ _ _ _ _ C ad H1 locs1 cells slots ls (hs_up hH (c := .inr (ci, fs.set j v)) ?_ ?_ hP hD) hE hS1 h1 h2 hl o1 (okl_t (okl_t o2))
  · intro w hw
    rcases List.mem_or_eq_of_mem_set hw with h9 | h9
    · exact hok w h9
    · rw [h9]; exact okl_h o2
  · show (Sum.inr (ci, (fs.set j v).map (mv ad)) : va_E) = _
    rw [List.map_set]
theorem ev_putF {idx ci j a : Nat} {fs : List Value} {v : Value} {ty : FieldType} (d : decode M.2.1 pc = .ok (.putfield idx, 3)) (fa : FA M.1.cls idx ci j ty true) (hin : M.1.name = "<init>") (hc : h a = .inr (ci, fs)) (ha : a < n) (hj : j < fs.length) (hv : ∀ ad, narrow ty (mv ad v) = mv ad v ∧ fits ty (mv ad v) = true) (hq : pc + 3 = q) (k : Ev xl xs F L B1 B2 M q lv st n (hup h a (.inr (ci, fs.set j v))) Q) : Ev xl xs F L B1 B2 M pc lv (v :: .ref a :: st) n h Q := by
  subst hq
  obtain ⟨C0, T, N, tf, ⟨c1, c2, c3, c4⟩, hjn, hlink, e1, e2, e3⟩ := fa
  intro p l e R s m args below meth cc Z D cA sz zd n0 ad0 CM SM C ad H locs cells slots ls hH hE hS h1 h2 hl o1 o2
  have hok : okl n fs := by have := hH.2.1 a ha; rw [hc] at this; exact this
  refine va_putF (D := D) (ci := ci) (v := mv ad v) (ty := ty) (C := C0) (T := T) (N := N) C.hx C.hb C.ts c2 tf c3 c4 C.own C.hK hH.2.2.1 hH.2.2.2.1 hS a (hs_at hH ha hc) c1 j hjn (C.ts _ hlink) (fun _ h9 => h9) e2 (C.nm.trans hin) (e3 rfl) (by rw [c3 j hjn, e1]) (hv ad).1 (hv ad).2 (by rw [List.length_map]; exact hj) d (fun H1 locs1 hP hD hS1 => ?_)
  refine k _ _ _ _ _ _ _ _ _ _ _ _ _ _ _ _ _ _ _ C ad H1 locs1 cells slots ls (hs_up hH (c := .inr (ci, fs.set j v)) ?_ ?_ hP hD) hE hS1 h1 h2 hl o1 (okl_t (okl_t o2))
  · intro w hw
    rcases List.mem_or_eq_of_mem_set hw with h9 | h9
    · exact hok w h9
    · rw [h9]; exact okl_h o2
  · show (Sum.inr (ci, (fs.set j v).map (mv ad)) : va_E) = _
    rw [List.map_set]
theorem ev_iald {a len : Nat} {f : Nat → Int32} {i : Int32} (d : decode M.2.1 pc = .ok (.iaload, 1)) (hc : h a = .inl (0, len, .inl f)) (ha : a < n) (hin : vp_in i len) (hq : pc + 1 = q) (k : Ev xl xs F L B1 B2 M q lv (.int (f i.toNatClampNeg) :: st) n h Q) : Ev xl xs F L B1 B2 M pc lv (.int i :: .ref a :: st) n h Q := by
  subst hq
  intro p l e R s m args below meth cc Z D cA sz zd n0 ad0 CM SM C ad H locs cells slots ls hH hE hS h1 h2 hl o1 o2
  exact va_iald (D := D) C.hx C.hb C.hK hH.2.2.1 a 0 (hs_at hH ha hc) rfl hin d (k _ _ _ _ _ _ _ _ _ _ _ _ _ _ _ _ _ _ _ C ad H locs cells slots ls hH hE hS h1 h2 hl o1 (okl_i (okl_t (okl_t o2))))
theorem ev_zald {a len : Nat} {f : Nat → Int32} {i : Int32} (d : decode M.2.1 pc = .ok (.baload, 1)) (hc : h a = .inl (2, len, .inl f)) (ha : a < n) (hin : vp_in i len) (hq : pc + 1 = q) (k : Ev xl xs F L B1 B2 M q lv (.int (f i.toNatClampNeg) :: st) n h Q) : Ev xl xs F L B1 B2 M pc lv (.int i :: .ref a :: st) n h Q := by
  subst hq
  intro p l e R s m args below meth cc Z D cA sz zd n0 ad0 CM SM C ad H locs cells slots ls hH hE hS h1 h2 hl o1 o2
  exact va_zald (D := D) C.hx C.hb C.hK hH.2.2.1 a 2 (hs_at hH ha hc) rfl hin d (k _ _ _ _ _ _ _ _ _ _ _ _ _ _ _ _ _ _ _ C ad H locs cells slots ls hH hE hS h1 h2 hl o1 (okl_i (okl_t (okl_t o2))))
theorem ev_lald {a len : Nat} {f : Nat → Int64} {i : Int32} (d : decode M.2.1 pc = .ok (.laload, 1)) (hc : h a = .inl (1, len, .inr (.inl f))) (ha : a < n) (hin : vp_in i len) (hq : pc + 1 = q) (k : Ev xl xs F L B1 B2 M q lv (.long (f i.toNatClampNeg) :: st) n h Q) : Ev xl xs F L B1 B2 M pc lv (.int i :: .ref a :: st) n h Q := by
  subst hq
  intro p l e R s m args below meth cc Z D cA sz zd n0 ad0 CM SM C ad H locs cells slots ls hH hE hS h1 h2 hl o1 o2
  exact va_lald (D := D) C.hx C.hb C.hK hH.2.2.1 a 1 (hs_at hH ha hc) rfl hin d (k _ _ _ _ _ _ _ _ _ _ _ _ _ _ _ _ _ _ _ C ad H locs cells slots ls hH hE hS h1 h2 hl o1 (okl_l (okl_t (okl_t o2))))
theorem ev_iast {a len : Nat} {f : Nat → Int32} {i x : Int32} (d : decode M.2.1 pc = .ok (.iastore, 1)) (hc : h a = .inl (0, len, .inl f)) (ha : a < n) (hin : vp_in i len) (hq : pc + 1 = q) (k : Ev xl xs F L B1 B2 M q lv st n (hup h a (.inl (0, len, .inl (upd f i.toNatClampNeg x)))) Q) : Ev xl xs F L B1 B2 M pc lv (.int x :: .int i :: .ref a :: st) n h Q := by
  subst hq
  intro p l e R s m args below meth cc Z D cA sz zd n0 ad0 CM SM C ad H locs cells slots ls hH hE hS h1 h2 hl o1 o2
  exact va_iast (D := D) C.hx C.hb C.hK hH.2.2.1 hH.2.2.2.1 hS a 0 (hs_at hH ha hc) rfl hin d (fun H1 locs1 hP hD hS1 => k _ _ _ _ _ _ _ _ _ _ _ _ _ _ _ _ _ _ _ C ad H1 locs1 cells slots ls (hs_up hH (c := .inl (0, len, .inl (upd f i.toNatClampNeg x))) trivial rfl hP hD) hE hS1 h1 h2 hl o1 (okl_t (okl_t (okl_t o2))))
theorem ev_zast {a len : Nat} {f : Nat → Int32} {i x : Int32} (d : decode M.2.1 pc = .ok (.bastore, 1)) (hc : h a = .inl (2, len, .inl f)) (ha : a < n) (hin : vp_in i len) (hq : pc + 1 = q) (k : Ev xl xs F L B1 B2 M q lv st n (hup h a (.inl (2, len, .inl (upd f i.toNatClampNeg (vp_nar .boolean x))))) Q) : Ev xl xs F L B1 B2 M pc lv (.int x :: .int i :: .ref a :: st) n h Q := by
  subst hq
  intro p l e R s m args below meth cc Z D cA sz zd n0 ad0 CM SM C ad H locs cells slots ls hH hE hS h1 h2 hl o1 o2
  exact va_zast (D := D) C.hx C.hb C.hK hH.2.2.1 hH.2.2.2.1 hS a 2 (hs_at hH ha hc) rfl hin d (fun H1 locs1 hP hD hS1 => k _ _ _ _ _ _ _ _ _ _ _ _ _ _ _ _ _ _ _ C ad H1 locs1 cells slots ls (hs_up hH (c := .inl (2, len, .inl (upd f i.toNatClampNeg (vp_nar .boolean x)))) trivial rfl hP hD) hE hS1 h1 h2 hl o1 (okl_t (okl_t (okl_t o2))))
theorem ev_last {a len : Nat} {f : Nat → Int64} {i : Int32} {x : Int64} (d : decode M.2.1 pc = .ok (.lastore, 1)) (hc : h a = .inl (1, len, .inr (.inl f))) (ha : a < n) (hin : vp_in i len) (hq : pc + 1 = q) (k : Ev xl xs F L B1 B2 M q lv st n (hup h a (.inl (1, len, .inr (.inl (vp_updL f i.toNatClampNeg x))))) Q) : Ev xl xs F L B1 B2 M pc lv (.long x :: .int i :: .ref a :: st) n h Q := by
  subst hq
  intro p l e R s m args below meth cc Z D cA sz zd n0 ad0 CM SM C ad H locs cells slots ls hH hE hS h1 h2 hl o1 o2
  exact va_last (D := D) C.hx C.hb C.hK hH.2.2.1 hH.2.2.2.1 hS a 1 (hs_at hH ha hc) rfl hin d (fun H1 locs1 hP hD hS1 => k _ _ _ _ _ _ _ _ _ _ _ _ _ _ _ _ _ _ _ C ad H1 locs1 cells slots ls (hs_up hH (c := .inl (1, len, .inr (.inl (vp_updL f i.toNatClampNeg x)))) trivial rfl hP hD) hE hS1 h1 h2 hl o1 (okl_t (okl_t (okl_t o2))))
theorem ev_aald {a len : Nat} {f : Nat → Option Nat} {i : Int32} (d : decode M.2.1 pc = .ok (.aaload, 1)) (hc : h a = .inl (3, len, .inr (.inr (.inr (.inr f))))) (ha : a < n) (hin : vp_in i len) (hq : pc + 1 = q) (k : Ev xl xs F L B1 B2 M q lv (va_rf (f i.toNatClampNeg) :: st) n h Q) : Ev xl xs F L B1 B2 M pc lv (.int i :: .ref a :: st) n h Q := by
  subst hq
  intro p l e R s m args below meth cc Z D cA sz zd n0 ad0 CM SM C ad H locs cells slots ls hH hE hS h1 h2 hl o1 o2
  have hok : ∀ j q, f j = some q → q < n := by have := hH.2.1 a ha; rw [hc] at this; exact this
  have e9 : va_rf ((f i.toNatClampNeg).map ad) = mv ad (va_rf (f i.toNatClampNeg)) := by cases f i.toNatClampNeg <;> rfl
  have o9 : okv n (va_rf (f i.toNatClampNeg)) := by
    cases h9 : f i.toNatClampNeg with
    | none => exact trivial
    | some b => exact Or.inl (hok _ b h9)
  have kk := k _ _ _ _ _ _ _ _ _ _ _ _ _ _ _ _ _ _ _ C ad H locs cells slots ls hH hE hS h1 h2 hl o1 (okl_c o9 (okl_t (okl_t o2)))
  rw [List.map_cons, ← e9] at kk
  exact va_aldq (D := D) (C := "WishLamp$State") C.hx C.hb C.hK hH.2.2.1 a 3 (hs_at hH ha hc) rfl hin d kk
theorem ev_aast {a len b : Nat} {f : Nat → Option Nat} {i : Int32} {fs : List Value} (d : decode M.2.1 pc = .ok (.aastore, 1)) (hc : h a = .inl (3, len, .inr (.inr (.inr (.inr f))))) (ha : a < n) (hb : h b = .inr (4, fs)) (hbn : b < n) (hin : vp_in i len) (hq : pc + 1 = q) (k : Ev xl xs F L B1 B2 M q lv st n (hup h a (.inl (3, len, .inr (.inr (.inr (.inr (va_up f i.toNatClampNeg (some b)))))))) Q) : Ev xl xs F L B1 B2 M pc lv (.ref b :: .int i :: .ref a :: st) n h Q := by
  subst hq
  intro p l e R s m args below meth cc Z D cA sz zd n0 ad0 CM SM C ad H locs cells slots ls hH hE hS h1 h2 hl o1 o2
  have hok : ∀ j q, f j = some q → q < n := by have := hH.2.1 a ha; rw [hc] at this; exact this
  refine va_astq (D := D) (r := (RX4, TX4, 16)) C.hx C.hb C.hK hH.2.2.1 hH.2.2.2.1 hS a 3 b 4 (hs_at hH ha hc) rfl (hs_at hH hbn hb) rfl hin d (fun H1 locs1 hP hD hS1 => k _ _ _ _ _ _ _ _ _ _ _ _ _ _ _ _ _ _ _ C ad H1 locs1 cells slots ls (hs_up hH (c := .inl (3, len, .inr (.inr (.inr (.inr (va_up f i.toNatClampNeg (some b))))))) ?_ ?_ hP hD) hE hS1 h1 h2 hl o1 (okl_t (okl_t (okl_t o2))))
  · intro j q hj
    unfold va_up at hj
    split at hj
    · cases hj; exact hbn
    · exact hok j q hj
  · show (Sum.inl (cA 3, len, .inr (.inr (.inr (.inr (fun j => (va_up f i.toNatClampNeg (some b) j).map ad))))) : va_E) = _
    congr 7
    funext j
    unfold va_up
    split <;> rfl
theorem ev_alen {a kd len : Nat} {f : (Nat → Int32) ⊕ (Nat → Int64) ⊕ (Nat → UInt32) ⊕ (Nat → UInt64) ⊕ (Nat → Option Nat)} (v : Int32) (d : decode M.2.1 pc = .ok (.arraylength, 1)) (hc : h a = .inl (kd, len, f)) (hkd : kd < 4) (ha : a < n) (hv : Int32.ofNat len = v) (hq : pc + 1 = q) (k : Ev xl xs F L B1 B2 M q lv (.int v :: st) n h Q) : Ev xl xs F L B1 B2 M pc lv (.ref a :: st) n h Q := by
  subst hq
  intro p l e R s m args below meth cc Z D cA sz zd n0 ad0 CM SM C ad H locs cells slots ls hH hE hS h1 h2 hl o1 o2
  have kk := k _ _ _ _ _ _ _ _ _ _ _ _ _ _ _ _ _ _ _ C ad H locs cells slots ls hH hE hS h1 h2 hl o1 (okl_i (okl_t o2))
  have ht : ∃ ty, (tyL cA)[kd]? = some (cA kd, ty) := by
    match kd, hkd with
    | 0, _ => exact ⟨_, rfl⟩
    | 1, _ => exact ⟨_, rfl⟩
    | 2, _ => exact ⟨_, rfl⟩
    | 3, _ => exact ⟨_, rfl⟩
  obtain ⟨ty, ht⟩ := ht
  rcases f with f | f | f | f | f
  · exact va_alen (D := D) (x := (len, .inl f)) C.hx C.hb C.hK hH.2.2.1 a kd (hs_at hH ha hc) ht hv d kk
  · exact va_alen (D := D) (x := (len, .inr (.inl f))) C.hx C.hb C.hK hH.2.2.1 a kd (hs_at hH ha hc) ht hv d kk
  · exact va_alen (D := D) (x := (len, .inr (.inr (.inl f)))) C.hx C.hb C.hK hH.2.2.1 a kd (hs_at hH ha hc) ht hv d kk
  · exact va_alen (D := D) (x := (len, .inr (.inr (.inr (.inl f))))) C.hx C.hb C.hK hH.2.2.1 a kd (hs_at hH ha hc) ht hv d kk
  · exact va_alen (D := D) (x := (len, .inr (.inr (.inr (.inr (fun j => (f j).map ad)))))) C.hx C.hb C.hK hH.2.2.1 a kd (hs_at hH ha hc) ht hv d kk
-- frozen arrays
theorem ad_fz {D : va_G} {cA : Nat → ClassId} {sz : Nat} {zd ad : Nat → Nat} {n : Nat} {h : Nat → PC} {H : Heap} (hH : Hs D cA sz zd ad n h H) (k : Nat) : ad (1000 + k) = zd k := by rw [hH.2.2.2.2 _ (Nat.le_add_right 1000 k), Nat.add_sub_cancel_left]
theorem ev_gets {idx k : Nat} {e : fzE} (d : decode M.2.1 pc = .ok (.getstatic idx, 3)) (hk : fzT[k]? = some e) (hw : Cond.fieldLink M.1.cls idx "WishLamp" e.1 e.2.1 ∈ TB) (hq : pc + 3 = q) (kk : Ev xl xs F L B1 B2 M q lv (.ref (1000 + k) :: st) n h Q) : Ev xl xs F L B1 B2 M pc lv st n h Q := by
  subst hq
  intro p l e R s m args below meth cc Z D cA sz zd n0 ad0 CM SM C ad H locs cells slots ls hH hE hS h1 h2 hl o1 o2
  have k9 := kk _ _ _ _ _ _ _ _ _ _ _ _ _ _ _ _ _ _ _ C ad H locs cells slots ls hH hE hS h1 h2 hl o1 (okl_c (show okv n (.ref (1000 + k)) from Or.inr (Nat.le_add_right 1000 k)) o2)
  have k9 : W p l e R s m args below meth cc H locs cells slots Z (F0 m (pc + 3) ls (Value.ref (ad (1000 + k)) :: st.map (mv ad))) := k9
  rw [ad_fz hH] at k9
  exact va_gets C.hx C.hb (C.hF.1 k _ hk).1 hS C.own (C.ts _ hw) (fun _ h9 => h9) d k9
theorem ev_getsN {idx k : Nat} {e : fzE} {host : String} (d : decode M.2.1 pc = .ok (.getstatic idx, 3)) (hk : fzT[k]? = some e) (hw : Cond.fieldLinkNest M.1.cls idx "WishLamp" e.1 e.2.1 host ∈ NT) (hq : pc + 3 = q) (kk : Ev xl xs F L B1 B2 M q lv (.ref (1000 + k) :: st) n h Q) : Ev xl xs F L B1 B2 M pc lv st n h Q := by
  subst hq
  intro p l e R s m args below meth cc Z D cA sz zd n0 ad0 CM SM C ad H locs cells slots ls hH hE hS h1 h2 hl o1 o2
  have k9 := kk _ _ _ _ _ _ _ _ _ _ _ _ _ _ _ _ _ _ _ C ad H locs cells slots ls hH hE hS h1 h2 hl o1 (okl_c (show okv n (.ref (1000 + k)) from Or.inr (Nat.le_add_right 1000 k)) o2)
  have k9 : W p l e R s m args below meth cc H locs cells slots Z (F0 m (pc + 3) ls (Value.ref (ad (1000 + k)) :: st.map (mv ad))) := k9
  rw [ad_fz hH] at k9
  exact va_getsN C.hx C.hb (C.hF.1 k _ hk).1 hS C.own (va_Nw.use rfl (C.nw _ hw)) (fun _ h9 => h9) d k9
theorem ev_fiald {k N : Nat} {nm ds : String} {f : Nat → Value} {i v : Int32} (d : decode M.2.1 pc = .ok (.iaload, 1)) (hk : fzT[k]? = some (nm, ds, .int, N, f)) (hin : vp_in i N) (hv : f i.toNatClampNeg = .int v) (hq : pc + 1 = q) (kk : Ev xl xs F L B1 B2 M q lv (.int v :: st) n h Q) : Ev xl xs F L B1 B2 M pc lv (.int i :: .ref (1000 + k) :: st) n h Q := by
  subst hq
  intro p l e R s m args below meth cc Z D cA sz zd n0 ad0 CM SM C ad H locs cells slots ls hH hE hS h1 h2 hl o1 o2
  have k9 := kk _ _ _ _ _ _ _ _ _ _ _ _ _ _ _ _ _ _ _ C ad H locs cells slots ls hH hE hS h1 h2 hl o1 (okl_i (okl_t (okl_t o2)))
  show W p l e R s m args below meth cc H locs cells slots Z (F0 m pc ls (.int i :: Value.ref (ad (1000 + k)) :: st.map (mv ad)))
  rw [ad_fz hH]
  exact va_ti C.hx C.hb (C.hF.1 k _ hk).2 hS hin hv d k9
theorem ev_flald {k N : Nat} {nm ds : String} {f : Nat → Value} {i : Int32} {v : Int64} (d : decode M.2.1 pc = .ok (.laload, 1)) (hk : fzT[k]? = some (nm, ds, .long, N, f)) (hin : vp_in i N) (hv : f i.toNatClampNeg = .long v) (hq : pc + 1 = q) (kk : Ev xl xs F L B1 B2 M q lv (.long v :: st) n h Q) : Ev xl xs F L B1 B2 M pc lv (.int i :: .ref (1000 + k) :: st) n h Q := by
  subst hq
  intro p l e R s m args below meth cc Z D cA sz zd n0 ad0 CM SM C ad H locs cells slots ls hH hE hS h1 h2 hl o1 o2
  have k9 := kk _ _ _ _ _ _ _ _ _ _ _ _ _ _ _ _ _ _ _ C ad H locs cells slots ls hH hE hS h1 h2 hl o1 (okl_l (okl_t (okl_t o2)))
  show W p l e R s m args below meth cc H locs cells slots Z (F0 m pc ls (.int i :: Value.ref (ad (1000 + k)) :: st.map (mv ad)))
  rw [ad_fz hH]
  exact va_tl C.hx C.hb (C.hF.1 k _ hk).2 hS hin hv d k9
theorem ev_flen {k N : Nat} {nm ds : String} {ty : FieldType} {f : Nat → Value} (v : Int32) (d : decode M.2.1 pc = .ok (.arraylength, 1)) (hk : fzT[k]? = some (nm, ds, ty, N, f)) (hv : Int32.ofNat N = v) (hq : pc + 1 = q) (kk : Ev xl xs F L B1 B2 M q lv (.int v :: st) n h Q) : Ev xl xs F L B1 B2 M pc lv (.ref (1000 + k) :: st) n h Q := by
  subst hq
  intro p l e R s m args below meth cc Z D cA sz zd n0 ad0 CM SM C ad H locs cells slots ls hH hE hS h1 h2 hl o1 o2
  have k9 := kk _ _ _ _ _ _ _ _ _ _ _ _ _ _ _ _ _ _ _ C ad H locs cells slots ls hH hE hS h1 h2 hl o1 (okl_i (okl_t o2))
  show W p l e R s m args below meth cc H locs cells slots Z (F0 m pc ls (Value.ref (ad (1000 + k)) :: st.map (mv ad)))
  rw [ad_fz hH]
  exact va_tlen C.hx C.hb (C.hF.1 k _ hk).2 hS hv d k9
theorem ev_sald {i : Int32} (d : decode M.2.1 pc = .ok (.iaload, 1)) (hin : vp_in i xl) (hq : pc + 1 = q) (kk : Ev xl xs F L B1 B2 M q lv (.int (xs i.toNatClampNeg) :: st) n h Q) : Ev xl xs F L B1 B2 M pc lv (.int i :: .ref 1004 :: st) n h Q := by
  subst hq
  intro p l e R s m args below meth cc Z D cA sz zd n0 ad0 CM SM C ad H locs cells slots ls hH hE hS h1 h2 hl o1 o2
  have k9 := kk _ _ _ _ _ _ _ _ _ _ _ _ _ _ _ _ _ _ _ C ad H locs cells slots ls hH hE hS h1 h2 hl o1 (okl_i (okl_t (okl_t o2)))
  show W p l e R s m args below meth cc H locs cells slots Z (F0 m pc ls (.int i :: Value.ref (ad (1000 + 4)) :: st.map (mv ad)))
  rw [ad_fz hH]
  exact va_ti C.hx C.hb C.hF.2 hS hin rfl d k9
theorem ev_slen (d : decode M.2.1 pc = .ok (.arraylength, 1)) (hq : pc + 1 = q) (kk : Ev xl xs F L B1 B2 M q lv (.int (Int32.ofNat xl) :: st) n h Q) : Ev xl xs F L B1 B2 M pc lv (.ref 1004 :: st) n h Q := by
  subst hq
  intro p l e R s m args below meth cc Z D cA sz zd n0 ad0 CM SM C ad H locs cells slots ls hH hE hS h1 h2 hl o1 o2
  have k9 := kk _ _ _ _ _ _ _ _ _ _ _ _ _ _ _ _ _ _ _ C ad H locs cells slots ls hH hE hS h1 h2 hl o1 (okl_i (okl_t o2))
  show W p l e R s m args below meth cc H locs cells slots Z (F0 m pc ls (Value.ref (ad (1000 + 4)) :: st.map (mv ad)))
  rw [ad_fz hH]
  exact va_tlen C.hx C.hb C.hF.2 hS rfl d k9
-- the ends
theorem ev_ret (d : decode M.2.1 pc = .ok (.return_, 1)) (hr : M.2.2.2 = none) (hQ : Q none n h) : Ev xl xs F L B1 B2 M pc lv [] n h Q := by
  intro p l e R s m args below meth cc Z D cA sz zd n0 ad0 CM SM C ad H locs cells slots ls hH hE hS h1 h2 hl o1 o2
  exact C.rt ad H locs cells slots ls n h none pc hH hE hS (by omega) (by omega) ⟨d, hr⟩ hQ
theorem ev_iret {v : Int32} {ty : FieldType} (d : decode M.2.1 pc = .ok (.ireturn, 1)) (hr : M.2.2.2 = some ty) (hn : narrow ty (.int v) = .int v) (hQ : Q (some (.int v)) n h) : Ev xl xs F L B1 B2 M pc lv [.int v] n h Q := by
  intro p l e R s m args below meth cc Z D cA sz zd n0 ad0 CM SM C ad H locs cells slots ls hH hE hS h1 h2 hl o1 o2
  exact C.rt ad H locs cells slots ls n h (some (.int v)) pc hH hE hS (by omega) (by omega) ⟨d, ty, hr, hn⟩ hQ
theorem ev_lret {v : Int64} (d : decode M.2.1 pc = .ok (.lreturn, 1)) (hr : M.2.2.2 = some .long) (hQ : Q (some (.long v)) n h) : Ev xl xs F L B1 B2 M pc lv [.long v] n h Q := by
  intro p l e R s m args below meth cc Z D cA sz zd n0 ad0 CM SM C ad H locs cells slots ls hH hE hS h1 h2 hl o1 o2
  exact C.rt ad H locs cells slots ls n h (some (.long v)) pc hH hE hS (by omega) (by omega) ⟨d, hr⟩ hQ
end MEM
