section CXA
variable {F L : Nat} {M : Mt} {Q : QT} {p : Program} {l : Launch} {e : Env} {R : Room} {s : State} {m : MethodId} {args : Array Value} {below : List Frame} {meth : Method} {c : Code} {Z : State → Prop} {D : va_G} {cA : Nat → ClassId} {sz : Nat} {zd : Nat → Nat} {xl : Nat} {xs : Nat → Int32} {n0 : Nat} {ad0 : Nat → Nat} {CM SM : Nat}
theorem Cx.hx (C : Cx F L M Q p l e R s m args below meth c Z D cA sz zd xl xs n0 ad0 CM SM) : p.tables.exec = Jvm.exec := C.1
theorem Cx.hb (C : Cx F L M Q p l e R s m args below meth c Z D cA sz zd xl xs n0 ad0 CM SM) : c.code = M.2.1 := C.2.1
theorem Cx.hml (C : Cx F L M Q p l e R s m args below meth c Z D cA sz zd xl xs n0 ad0 CM SM) : c.maxLocals = M.2.2.1 := C.2.2.1
theorem Cx.own (C : Cx F L M Q p l e R s m args below meth c Z D cA sz zd xl xs n0 ad0 CM SM) : s.vm.findClass M.1.cls = some m.cls := C.2.2.2.1
theorem Cx.ts (C : Cx F L M Q p l e R s m args below meth c Z D cA sz zd xl xs n0 ad0 CM SM) : ∀ w ∈ TB, w.before args s = true := C.2.2.2.2.1
theorem Cx.nw (C : Cx F L M Q p l e R s m args below meth c Z D cA sz zd xl xs n0 ad0 CM SM) : ∀ w ∈ NT, va_Nw w s := C.2.2.2.2.2.1
theorem Cx.hK (C : Cx F L M Q p l e R s m args below meth c Z D cA sz zd xl xs n0 ad0 CM SM) : va_K D vwCl (tyL cA) s := C.2.2.2.2.2.2.1
theorem Cx.hF (C : Cx F L M Q p l e R s m args below meth c Z D cA sz zd xl xs n0 ad0 CM SM) : Fz sz zd xl xs s s.heap := C.2.2.2.2.2.2.2.1
theorem Cx.ao (C : Cx F L M Q p l e R s m args below meth c Z D cA sz zd xl xs n0 ad0 CM SM) : va_AO "WishLamp$State" s := C.2.2.2.2.2.2.2.2.1
theorem Cx.nm (C : Cx F L M Q p l e R s m args below meth c Z D cA sz zd xl xs n0 ad0 CM SM) : meth.name = M.1.name := C.2.2.2.2.2.2.2.2.2.1
theorem Cx.hsz (C : Cx F L M Q p l e R s m args below meth c Z D cA sz zd xl xs n0 ad0 CM SM) : sz ≤ s.heap.size := C.2.2.2.2.2.2.2.2.2.2.1
theorem Cx.hR (C : Cx F L M Q p l e R s m args below meth c Z D cA sz zd xl xs n0 ad0 CM SM) : F ≤ R.frames ∧ L ≤ R.locals ∧ CM ≤ R.cells ∧ SM ≤ R.slots := C.2.2.2.2.2.2.2.2.2.2.2.1
theorem Cx.rt (C : Cx F L M Q p l e R s m args below meth c Z D cA sz zd xl xs n0 ad0 CM SM) : Rt M Q p l e R s m args below meth c Z D cA sz zd n0 ad0 CM SM := C.2.2.2.2.2.2.2.2.2.2.2.2
theorem Cx.hA (C : Cx F L M Q p l e R s m args below meth c Z D cA sz zd xl xs n0 ad0 CM SM) : ∀ q, s.heap.size ≤ q → (fun q => sz ≤ q) q := fun _ h => Nat.le_trans C.hsz h
end CXA
-- locals
def prs (ad : Nat → Nat) (lv : List (Option Value)) : List (Nat × Value) := (List.range lv.length).filterMap (fun i => match lv[i]? with
  | some (some v) => some (i, mv ad v)
  | _ => none)
theorem prs_mem {ad : Nat → Nat} {lv : List (Option Value)} {q : Nat × Value} : q ∈ prs ad lv ↔ ∃ v, lv[q.1]? = some (some v) ∧ q.2 = mv ad v := by
  constructor
  · intro hq
    obtain ⟨i, -, hi⟩ := List.mem_filterMap.mp hq
    cases h1 : lv[i]? with
    | none => rw [h1] at hi; cases hi
    | some o =>
      rw [h1] at hi
      cases o with
      | none => cases hi
      | some v => cases hi; exact ⟨v, h1, rfl⟩
  · intro ⟨v, h1, h2⟩
    refine List.mem_filterMap.mpr ⟨q.1, List.mem_range.mpr (List.getElem?_eq_some_iff.mp h1).1, ?_⟩
    rw [h1]
    show some (q.1, mv ad v) = some q
    rw [← h2]
theorem lh_has {ls : Array Slot} {nL : Nat} {ad : Nat → Nat} {lv : List (Option Value)} (hl : LH ls nL ad lv) : lv_has ls nL (prs ad lv) := ⟨hl.1.1, hl.1.2, fun q hq => by
  obtain ⟨v, h1, h2⟩ := prs_mem.mp hq
  rw [h2]
  exact hl.2.2 _ _ h1⟩
theorem mv_cat (ad : Nat → Nat) (v : Value) : (mv ad v).category = v.category := by cases v <;> rfl
theorem lh_st1 {ls' : Array Slot} {nL : Nat} {ad : Nat → Nat} {lv lv' : List (Option Value)} {i : Nat} {x : Value} (hlen : lv'.length ≤ nL) (hp : ∀ j w, lv'[j]? = some (some w) → (j = i ∧ w = x) ∨ (j ≠ i ∧ ¬ (j + 1 = i ∧ w.category = 2) ∧ lv[j]? = some (some w)))
    (h : lv_has ls' nL ((i, mv ad x) :: (prs ad lv).filter (fun q => !(q.1 == i) && !(q.1 + 1 == i && q.2.category == 2)))) : LH ls' nL ad lv' := by
  refine ⟨⟨h.1, h.2.1⟩, hlen, fun j w hj => ?_⟩
  rcases hp j w hj with ⟨rfl, rfl⟩ | ⟨h1, h2, h3⟩
  · exact h.2.2 (j, mv ad w) List.mem_cons_self
  · refine h.2.2 (j, mv ad w) (List.mem_cons_of_mem _ (List.mem_filter.mpr ⟨prs_mem.mpr ⟨w, h3, rfl⟩, ?_⟩))
    have e2 : (mv ad w).category = w.category := mv_cat ad w
    simp only [Bool.and_eq_true, Bool.not_eq_true', beq_eq_false_iff_ne, ne_eq, Bool.and_eq_false_iff, e2]
    refine ⟨h1, ?_⟩
    by_cases hj1 : j + 1 = i
    · exact Or.inr (fun h => h2 ⟨hj1, h⟩)
    · exact Or.inl hj1
theorem lh_st2 {ls' : Array Slot} {nL : Nat} {ad : Nat → Nat} {lv lv' : List (Option Value)} {i : Nat} {x : Value} (hlen : lv'.length ≤ nL) (hp : ∀ j w, lv'[j]? = some (some w) → (j = i ∧ w = x) ∨ (j ≠ i ∧ j ≠ i + 1 ∧ ¬ (j + 1 = i ∧ w.category = 2) ∧ lv[j]? = some (some w)))
    (h : lv_has ls' nL ((i, mv ad x) :: (prs ad lv).filter (fun q => !(q.1 == i) && (!(q.1 == i + 1) && !(q.1 + 1 == i && q.2.category == 2))))) : LH ls' nL ad lv' := by
  refine ⟨⟨h.1, h.2.1⟩, hlen, fun j w hj => ?_⟩
  rcases hp j w hj with ⟨rfl, rfl⟩ | ⟨h1, h1', h2, h3⟩
  · exact h.2.2 (j, mv ad w) List.mem_cons_self
  · refine h.2.2 (j, mv ad w) (List.mem_cons_of_mem _ (List.mem_filter.mpr ⟨prs_mem.mpr ⟨w, h3, rfl⟩, ?_⟩))
    have e2 : (mv ad w).category = w.category := mv_cat ad w
    simp only [Bool.and_eq_true, Bool.not_eq_true', beq_eq_false_iff_ne, ne_eq, Bool.and_eq_false_iff, e2]
    refine ⟨h1, h1', ?_⟩
    by_cases hj1 : j + 1 = i
    · exact Or.inr (fun h => h2 ⟨hj1, h⟩)
    · exact Or.inl hj1
def kl : Option Value → Option Value
  | some v => if v.category = 2 then none else some v
  | none => none
def st1 : List (Option Value) → Nat → Value → List (Option Value)
  | [], _, _ => []
  | _ :: t, 0, v => some v :: t
  | a :: t, 1, v => kl a :: st1 t 0 v
  | a :: t, i + 2, v => a :: st1 t (i + 1) v
def st2 : List (Option Value) → Nat → Value → List (Option Value)
  | [], _, _ => []
  | [_], 0, v => [some v]
  | _ :: _ :: t, 0, v => some v :: none :: t
  | a :: t, 1, v => kl a :: st2 t 0 v
  | a :: t, i + 2, v => a :: st2 t (i + 1) v
theorem kl_some {a : Option Value} {w : Value} (h : kl a = some w) : a = some w ∧ ¬ w.category = 2 := by
  cases a with
  | none => cases h
  | some v =>
    by_cases hc : v.category = 2
    · simp [kl, hc] at h
    · simp only [kl, hc, if_false] at h
      cases h
      exact ⟨rfl, hc⟩
theorem st1_len : ∀ (l : List (Option Value)) (i : Nat) (v : Value), (st1 l i v).length = l.length
  | [], _, _ => rfl
  | _ :: t, 0, v => rfl
  | a :: t, 1, v => by simp [st1, st1_len t 0 v]
  | a :: t, i + 2, v => by simp [st1, st1_len t (i + 1) v]
theorem st2_len : ∀ (l : List (Option Value)) (i : Nat) (v : Value), (st2 l i v).length = l.length
  | [], _, _ => rfl
  | [_], 0, v => rfl
  | _ :: _ :: t, 0, v => rfl
  | a :: t, 1, v => by simp [st2, st2_len t 0 v]
  | a :: t, i + 2, v => by simp [st2, st2_len t (i + 1) v]
theorem st1_at : ∀ (l : List (Option Value)) (i : Nat) (v : Value) (j : Nat) (w : Value), (st1 l i v)[j]? = some (some w) → (j = i ∧ w = v) ∨ (j ≠ i ∧ ¬ (j + 1 = i ∧ w.category = 2) ∧ l[j]? = some (some w))
  | [], _, _, j, w, h => by simp [st1] at h
  | _ :: t, 0, v, 0, w, h => by
    simp [st1] at h
    exact Or.inl ⟨rfl, h.symm⟩
  | _ :: t, 0, v, j + 1, w, h => Or.inr ⟨by omega, by omega, by simpa [st1] using h⟩
  | a :: t, 1, v, 0, w, h => by
    have h1 : kl a = some w := by simpa [st1] using h
    obtain ⟨h2, h3⟩ := kl_some h1
    exact Or.inr ⟨by omega, fun h => h3 h.2, by simp [h2]⟩
  | a :: t, 1, v, j + 1, w, h => by
    have h1 : (st1 t 0 v)[j]? = some (some w) := by simpa [st1] using h
    rcases st1_at t 0 v j w h1 with ⟨e1, e2⟩ | ⟨e1, e2, e3⟩
    · exact Or.inl ⟨by omega, e2⟩
    · exact Or.inr ⟨by omega, by omega, by simpa using e3⟩
  | a :: t, i + 2, v, 0, w, h => Or.inr ⟨by omega, by omega, by simpa [st1] using h⟩
  | a :: t, i + 2, v, j + 1, w, h => by
    have h1 : (st1 t (i + 1) v)[j]? = some (some w) := by simpa [st1] using h
    rcases st1_at t (i + 1) v j w h1 with ⟨e1, e2⟩ | ⟨e1, e2, e3⟩
    · exact Or.inl ⟨by omega, e2⟩
    · exact Or.inr ⟨by omega, fun h => e2 ⟨by omega, h.2⟩, by simpa using e3⟩
theorem st2_at : ∀ (l : List (Option Value)) (i : Nat) (v : Value) (j : Nat) (w : Value), (st2 l i v)[j]? = some (some w) → (j = i ∧ w = v) ∨ (j ≠ i ∧ j ≠ i + 1 ∧ ¬ (j + 1 = i ∧ w.category = 2) ∧ l[j]? = some (some w))
  | [], _, _, j, w, h => by simp [st2] at h
  | [_], 0, v, 0, w, h => by
    simp [st2] at h
    exact Or.inl ⟨rfl, h.symm⟩
  | [_], 0, v, j + 1, w, h => by simp [st2] at h
  | _ :: _ :: t, 0, v, 0, w, h => by
    simp [st2] at h
    exact Or.inl ⟨rfl, h.symm⟩
  | _ :: _ :: t, 0, v, 1, w, h => by simp [st2] at h
  | _ :: _ :: t, 0, v, j + 2, w, h => Or.inr ⟨by omega, by omega, by omega, by simpa [st2] using h⟩
  | a :: t, 1, v, 0, w, h => by
    have h1 : kl a = some w := by simpa [st2] using h
    obtain ⟨h2, h3⟩ := kl_some h1
    exact Or.inr ⟨by omega, by omega, fun h => h3 h.2, by simp [h2]⟩
  | a :: t, 1, v, j + 1, w, h => by
    have h1 : (st2 t 0 v)[j]? = some (some w) := by simpa [st2] using h
    rcases st2_at t 0 v j w h1 with ⟨e1, e2⟩ | ⟨e1, e1', e2, e3⟩
    · exact Or.inl ⟨by omega, e2⟩
    · exact Or.inr ⟨by omega, by omega, by omega, by simpa using e3⟩
  | a :: t, i + 2, v, 0, w, h => Or.inr ⟨by omega, by omega, by omega, by simpa [st2] using h⟩
  | a :: t, i + 2, v, j + 1, w, h => by
    have h1 : (st2 t (i + 1) v)[j]? = some (some w) := by simpa [st2] using h
    rcases st2_at t (i + 1) v j w h1 with ⟨e1, e2⟩ | ⟨e1, e1', e2, e3⟩
    · exact Or.inl ⟨by omega, e2⟩
    · exact Or.inr ⟨by omega, by omega, fun h => e2 ⟨by omega, h.2⟩, by simpa using e3⟩
theorem okL_st1 {n : Nat} {l : List (Option Value)} {i : Nat} {v : Value} (h : okL n l) (hv : okv n v) : okL n (st1 l i v) := fun w hw => by
  obtain ⟨j, hj⟩ := List.getElem?_of_mem hw
  rcases st1_at l i v j w hj with ⟨-, rfl⟩ | ⟨-, -, e⟩
  · exact hv
  · exact h w (List.mem_of_getElem? e)
theorem okL_st2 {n : Nat} {l : List (Option Value)} {i : Nat} {v : Value} (h : okL n l) (hv : okv n v) : okL n (st2 l i v) := fun w hw => by
  obtain ⟨j, hj⟩ := List.getElem?_of_mem hw
  rcases st2_at l i v j w hj with ⟨-, rfl⟩ | ⟨-, -, -, e⟩
  · exact hv
  · exact h w (List.mem_of_getElem? e)
section STO
variable {xl : Nat} {xs : Nat → Int32} {F L B1 B2 : Nat} {M : Mt} {pc : Nat} {lv lv' : List (Option Value)} {st : List Value} {n : Nat} {h : Nat → PC} {Q : QT} {q : Nat}
theorem ev_istore_n {i : Fin 4} {x : Int32} (d : decode M.2.1 pc = .ok (.istore_n i, 1)) (hi : (i : Nat) < lv.length) (he : st1 lv i (.int x) = lv') (hq : pc + 1 = q) (k : Ev xl xs F L B1 B2 M q lv' st n h Q) : Ev xl xs F L B1 B2 M pc lv (.int x :: st) n h Q := by
  subst hq; subst he
  intro p l e R s m args below meth cc Z D cA sz zd n0 ad0 CM SM C ad H locs cells slots ls hH hE hS hc hs hl o1 o2
  exact lv_istore_n C.hx C.hb d rfl (lh_has hl) (Nat.lt_of_lt_of_le hi hl.2.1) rfl (fun ls' hl' => k _ _ _ _ _ _ _ _ _ _ _ _ _ _ _ _ _ _ _ C ad H locs cells slots ls' hH hE hS hc hs (lh_st1 (x := .int x) (by rw [st1_len]; exact hl.2.1) (st1_at _ _ _) hl') (okL_st1 o1 trivial) (okl_t o2))
theorem ev_istore {i : Nat} {x : Int32} (d : decode M.2.1 pc = .ok (.istore i, 2)) (hi : i < lv.length) (he : st1 lv i (.int x) = lv') (hq : pc + 2 = q) (k : Ev xl xs F L B1 B2 M q lv' st n h Q) : Ev xl xs F L B1 B2 M pc lv (.int x :: st) n h Q := by
  subst hq; subst he
  intro p l e R s m args below meth cc Z D cA sz zd n0 ad0 CM SM C ad H locs cells slots ls hH hE hS hc hs hl o1 o2
  exact lv_istore C.hx C.hb d (lh_has hl) (Nat.lt_of_lt_of_le hi hl.2.1) rfl (fun ls' hl' => k _ _ _ _ _ _ _ _ _ _ _ _ _ _ _ _ _ _ _ C ad H locs cells slots ls' hH hE hS hc hs (lh_st1 (x := .int x) (by rw [st1_len]; exact hl.2.1) (st1_at _ _ _) hl') (okL_st1 o1 trivial) (okl_t o2))
theorem ev_astore_n {i : Fin 4} {x : Nat} (d : decode M.2.1 pc = .ok (.astore_n i, 1)) (hi : (i : Nat) < lv.length) (he : st1 lv i (.ref x) = lv') (hq : pc + 1 = q) (k : Ev xl xs F L B1 B2 M q lv' st n h Q) : Ev xl xs F L B1 B2 M pc lv (.ref x :: st) n h Q := by
  subst hq; subst he
  intro p l e R s m args below meth cc Z D cA sz zd n0 ad0 CM SM C ad H locs cells slots ls hH hE hS hc hs hl o1 o2
  exact lv_astore_n C.hx C.hb d rfl (lh_has hl) (Nat.lt_of_lt_of_le hi hl.2.1) rfl (fun ls' hl' => k _ _ _ _ _ _ _ _ _ _ _ _ _ _ _ _ _ _ _ C ad H locs cells slots ls' hH hE hS hc hs (lh_st1 (x := .ref x) (by rw [st1_len]; exact hl.2.1) (st1_at _ _ _) hl') (okL_st1 o1 (okl_h o2)) (okl_t o2))
theorem ev_lstore_n {i : Fin 4} {x : Int64} (d : decode M.2.1 pc = .ok (.lstore_n i, 1)) (hi : (i : Nat) + 1 < lv.length) (he : st2 lv i (.long x) = lv') (hq : pc + 1 = q) (k : Ev xl xs F L B1 B2 M q lv' st n h Q) : Ev xl xs F L B1 B2 M pc lv (.long x :: st) n h Q := by
  subst hq; subst he
  intro p l e R s m args below meth cc Z D cA sz zd n0 ad0 CM SM C ad H locs cells slots ls hH hE hS hc hs hl o1 o2
  exact lv_lstore_n C.hx C.hb d rfl (lh_has hl) (Nat.lt_of_lt_of_le hi hl.2.1) rfl (fun ls' hl' => k _ _ _ _ _ _ _ _ _ _ _ _ _ _ _ _ _ _ _ C ad H locs cells slots ls' hH hE hS hc hs (lh_st2 (x := .long x) (by rw [st2_len]; exact hl.2.1) (st2_at _ _ _) hl') (okL_st2 o1 trivial) (okl_t o2))
theorem ev_lstore {i : Nat} {x : Int64} (d : decode M.2.1 pc = .ok (.lstore i, 2)) (hi : i + 1 < lv.length) (he : st2 lv i (.long x) = lv') (hq : pc + 2 = q) (k : Ev xl xs F L B1 B2 M q lv' st n h Q) : Ev xl xs F L B1 B2 M pc lv (.long x :: st) n h Q := by
  subst hq; subst he
  intro p l e R s m args below meth cc Z D cA sz zd n0 ad0 CM SM C ad H locs cells slots ls hH hE hS hc hs hl o1 o2
  exact lv_lstore C.hx C.hb d (lh_has hl) (Nat.lt_of_lt_of_le hi hl.2.1) rfl (fun ls' hl' => k _ _ _ _ _ _ _ _ _ _ _ _ _ _ _ _ _ _ _ C ad H locs cells slots ls' hH hE hS hc hs (lh_st2 (x := .long x) (by rw [st2_len]; exact hl.2.1) (st2_at _ _ _) hl') (okL_st2 o1 trivial) (okl_t o2))
theorem ev_iinc {i : Nat} {z : Int} {x : Int32} (v : Int32) (d : decode M.2.1 pc = .ok (.iinc i z, 3)) (hi : lv[i]? = some (some (.int x))) (hv : x + Int32.ofInt z = v) (he : st1 lv i (.int v) = lv') (hq : pc + 3 = q) (k : Ev xl xs F L B1 B2 M q lv' st n h Q) : Ev xl xs F L B1 B2 M pc lv st n h Q := by
  subst hq; subst he
  intro p l e R s m args below meth cc Z D cA sz zd n0 ad0 CM SM C ad H locs cells slots ls hH hE hS hc hs hl o1 o2
  have hi' : i < lv.length := (List.getElem?_eq_some_iff.mp hi).1
  have hm : (i, Value.int x) ∈ prs ad lv := prs_mem.mpr ⟨_, hi, rfl⟩
  obtain ⟨k0, hk0⟩ := List.getElem?_of_mem hm
  exact lv_iinc (x := x) (v := v) C.hx C.hb d (lh_has hl) hk0 hv (Nat.lt_of_lt_of_le hi' hl.2.1) rfl (fun ls' hl' => k _ _ _ _ _ _ _ _ _ _ _ _ _ _ _ _ _ _ _ C ad H locs cells slots ls' hH hE hS hc hs (lh_st1 (x := .int v) (by rw [st1_len]; exact hl.2.1) (st1_at _ _ _) hl') (okL_st1 o1 trivial) o2)
end STO
