/-! THE SECOND LEVEL: a pure heap (places, cells), and 'Ev': from this pure state the method returns with Q. Rows below: one an instruction, without machine words. -/
abbrev PC : Type := (Nat × vp_A) ⊕ (Nat × List Value)
def mv (ad : Nat → Nat) : Value → Value
  | .ref q => .ref (ad q)
  | v => v
def mcell (cA : Nat → ClassId) (ad : Nat → Nat) : PC → va_E
  | .inl (k, n, .inr (.inr (.inr (.inr f)))) => .inl (cA k, n, .inr (.inr (.inr (.inr (fun j => (f j).map ad)))))
  | .inl (k, x) => .inl (cA k, x)
  | .inr (ci, fs) => .inr (ci, fs.map (mv ad))
def wsOf (cA : Nat → ClassId) (ad : Nat → Nat) (n : Nat) (h : Nat → PC) : va_W := (List.range n).map (fun p => (ad p, mcell cA ad (h p)))
def okv (n : Nat) : Value → Prop
  | .ref q => q < n ∨ 1000 ≤ q
  | _ => True
def okl (n : Nat) (l : List Value) : Prop := ∀ v ∈ l, okv n v
def okL (n : Nat) (l : List (Option Value)) : Prop := ∀ v, some v ∈ l → okv n v
def okc (n : Nat) : PC → Prop
  | .inl (_, _, .inr (.inr (.inr (.inr f)))) => ∀ j q, f j = some q → q < n
  | .inl _ => True
  | .inr (_, fs) => okl n fs
def hup (h : Nat → PC) (k : Nat) (c : PC) : Nat → PC := fun j => if j = k then c else h j
theorem okv_mono {n m : Nat} (h : n ≤ m) {v : Value} (o : okv n v) : okv m v := by
  cases v <;> first | exact trivial | (rcases o with o | o; exact Or.inl (Nat.lt_of_lt_of_le o h); exact Or.inr o)
theorem okl_mono {n m : Nat} (h : n ≤ m) {l : List Value} (o : okl n l) : okl m l := fun v hv => okv_mono h (o v hv)
theorem okL_mono {n m : Nat} (h : n ≤ m) {l : List (Option Value)} (o : okL n l) : okL m l := fun v hv => okv_mono h (o v hv)
theorem okc_mono {n m : Nat} (h : n ≤ m) {c : PC} (o : okc n c) : okc m c := by
  rcases c with ⟨k, x, f | f | f | f | f⟩ | ⟨ci, fs⟩
  · exact trivial
  · exact trivial
  · exact trivial
  · exact trivial
  · exact fun j q hq => Nat.lt_of_lt_of_le (o j q hq) h
  · exact okl_mono h o
theorem mv_eq {n : Nat} {ad ad' : Nat → Nat} (h : ∀ q, (q < n ∨ 1000 ≤ q) → ad' q = ad q) {v : Value} (o : okv n v) : mv ad' v = mv ad v := by
  cases v <;> first | rfl | (show Value.ref _ = Value.ref _; rw [h _ o])
theorem mvl_eq {n : Nat} {ad ad' : Nat → Nat} (h : ∀ q, (q < n ∨ 1000 ≤ q) → ad' q = ad q) {l : List Value} (o : okl n l) : l.map (mv ad') = l.map (mv ad) := List.map_congr_left (fun v hv => mv_eq h (o v hv))
theorem mcell_eq {n : Nat} {cA : Nat → ClassId} {ad ad' : Nat → Nat} (h : ∀ q, (q < n ∨ 1000 ≤ q) → ad' q = ad q) {c : PC} (o : okc n c) : mcell cA ad' c = mcell cA ad c := by
  rcases c with ⟨k, x, f | f | f | f | f⟩ | ⟨ci, fs⟩
  · rfl
  · rfl
  · rfl
  · rfl
  · have e : (fun j => (f j).map ad') = (fun j => (f j).map ad) := by
      funext j
      cases hj : f j with
      | none => rfl
      | some q => show some (ad' q) = some (ad q); rw [h q (Or.inl (o j q hj))]
    show (Sum.inl (cA k, x, .inr (.inr (.inr (.inr (fun j => (f j).map ad'))))) : va_E) = _
    rw [e]
    rfl
  · show (Sum.inr (ci, fs.map (mv ad')) : va_E) = Sum.inr (ci, fs.map (mv ad))
    rw [mvl_eq h o]
theorem wsOf_at {cA : Nat → ClassId} {ad : Nat → Nat} {n : Nat} {h : Nat → PC} {k : Nat} (hk : k < n) : (wsOf cA ad n h)[k]? = some (ad k, mcell cA ad (h k)) := by
  simp [wsOf, hk]
theorem wsOf_len {cA : Nat → ClassId} {ad : Nat → Nat} {n : Nat} {h : Nat → PC} : (wsOf cA ad n h).length = n := by simp [wsOf]
theorem wsOf_set {cA : Nat → ClassId} {ad : Nat → Nat} {n : Nat} {h : Nat → PC} {k : Nat} (c : PC) : (wsOf cA ad n h).set k (ad k, mcell cA ad c) = wsOf cA ad n (hup h k c) := by
  apply List.ext_getElem?
  intro j
  rw [List.getElem?_set]
  by_cases hj : j < n
  · rw [wsOf_at hj, wsOf_at hj, wsOf_len]
    by_cases hkj : k = j
    · subst hkj
      simp [hup, hj]
    · have : j ≠ k := fun e => hkj e.symm
      simp [hup, hkj, this]
  · have e1 : (wsOf cA ad n h)[j]? = none := List.getElem?_eq_none (by rw [wsOf_len]; omega)
    have e2 : (wsOf cA ad n (hup h k c))[j]? = none := List.getElem?_eq_none (by rw [wsOf_len]; omega)
    rw [e1, e2, wsOf_len]
    by_cases hkj : k = j
    · subst hkj
      simp [hj]
    · simp [hkj]
theorem wsOf_push {cA : Nat → ClassId} {ad : Nat → Nat} {n : Nat} {h : Nat → PC} {q : Nat} {c : PC} {e : va_E} (hn : n < 1000) (ho : ∀ k, k < n → okc n (h k)) (he : mcell cA (va_up ad n q) c = e) : wsOf cA ad n h ++ [(q, e)] = wsOf cA (va_up ad n q) (n + 1) (hup h n c) := by
  subst he
  have hag : ∀ x, (x < n ∨ 1000 ≤ x) → va_up ad n q x = ad x := fun x hx => by
    have : x ≠ n := by omega
    simp [va_up, this]
  apply List.ext_getElem?
  intro j
  by_cases hj : j < n
  · rw [List.getElem?_append_left (by rw [wsOf_len]; exact hj), wsOf_at hj, wsOf_at (by omega)]
    have : j ≠ n := by omega
    rw [hag j (Or.inl hj)]
    simp only [hup, this, if_false]
    rw [mcell_eq hag (ho j hj)]
  · by_cases hjn : j = n
    · subst hjn
      rw [List.getElem?_append_right (by rw [wsOf_len]; omega), wsOf_at (by omega), wsOf_len]
      simp [hup, va_up]
    · rw [List.getElem?_eq_none (by simp [wsOf_len]; omega), List.getElem?_eq_none (by rw [wsOf_len]; omega)]
-- frozen arrays: the class's static ones, and the script
abbrev fzE : Type := String × String × FieldType × Nat × (Nat → Value)
def powV : Nat → Value := fun j => .int (([1, 3, 9, 27, 81, 243, 729] : List Int32).getD j 0)
def joiV : Nat → Value := fun j => .int (([38, 124, 62, 61, 94] : List Int32).getD j 0)
def soL : List Int64 := [-6148914691236517206, -3689348814741910324, -1085102592571150096, -71777214294589696, -281470681808896, -4294967296]
def soV : Nat → Value := fun j => .long (soL.getD j 0)
def fewL : List Int64 := [1, 4295033111, 282673290876799, 78557353124790271, 1693212720255467519, 9223372036854775807, -1]
def fewV : Nat → Value := fun j => .long (fewL.getD j 0)
def fzT : List fzE := [("POWERS", "[I", .int, 7, powV), ("JOINTS", "[I", .int, 5, joiV), ("SO", "[J", .long, 6, soV), ("FEW", "[J", .long, 7, fewV)]
def Fz (sz : Nat) (zd : Nat → Nat) (xl : Nat) (xs : Nat → Int32) (U : State) (H : Heap) : Prop := (∀ (k : Nat) (q : fzE), fzT[k]? = some q → va_Z "WishLamp" q.1 q.2.1 (.ref (zd k)) (fun q => sz ≤ q) U H ∧ va_T q.2.2.1 (zd k) q.2.2.2.1 q.2.2.2.2 (fun q => sz ≤ q) U H) ∧ va_T .int (zd 4) xl (fun j => .int (xs j)) (fun q => sz ≤ q) U H
theorem Fz.moved {sz : Nat} {zd : Nat → Nat} {xl : Nat} {xs : Nat → Int32} {u U : State} {H : Heap} (hvm : u.vm.Alike U.vm) (h : Fz sz zd xl xs u H) : Fz sz zd xl xs U H := ⟨fun k q hq => ⟨(h.1 k q hq).1.moved hvm, (h.1 k q hq).2.moved hvm⟩, h.2.moved hvm⟩
theorem Fz.kept {sz : Nat} {zd : Nat → Nat} {xl : Nat} {xs : Nat → Int32} {U : State} {H H1 : Heap} (h : Fz sz zd xl xs U H) (hq : ∀ a : Nat, a < H.size → ¬ (sz ≤ a) → H1[a]? = H[a]?) : Fz sz zd xl xs U H1 := ⟨fun k q hk => ⟨(h.1 k q hk).1.kept hq, (h.1 k q hk).2.kept hq⟩, h.2.kept hq⟩
def tyL (cA : Nat → ClassId) : List (ClassId × FieldType) := [(cA 0, .int), (cA 1, .long), (cA 2, .boolean), (cA 3, .object "WishLamp$State")]
/-- the heap holds the pure heap -/
def Hs (D : va_G) (cA : Nat → ClassId) (sz : Nat) (zd ad : Nat → Nat) (n : Nat) (h : Nat → PC) (H : Heap) : Prop := n ≤ 1000 ∧ (∀ k, k < n → okc n (h k)) ∧ va_P D vwCl (wsOf cA ad n h) H ∧ va_D (fun q => sz ≤ q) (wsOf cA ad n h) ∧ ∀ k, 1000 ≤ k → ad k = zd (k - 1000)
def Ext (n0 : Nat) (ad0 : Nat → Nat) (n : Nat) (ad : Nat → Nat) : Prop := n0 ≤ n ∧ ∀ q, (q < n0 ∨ 1000 ≤ q) → ad q = ad0 q
/-- the locals, by their places -/
def LH (ls : Array Slot) (nL : Nat) (ad : Nat → Nat) (lv : List (Option Value)) : Prop := (ls.size = nL ∧ lv_wf ls) ∧ lv.length ≤ nL ∧ ∀ (i : Nat) (v : Value), lv[i]? = some (some v) → ls[i]? = some (.val (mv ad v))
def retd (M : Mt) (pc : Nat) : Option Value → Prop
  | none => decode M.2.1 pc = .ok (.return_, 1) ∧ M.2.2.2 = none
  | some (.int v) => decode M.2.1 pc = .ok (.ireturn, 1) ∧ ∃ ty, M.2.2.2 = some ty ∧ narrow ty (.int v) = .int v
  | some (.long _) => decode M.2.1 pc = .ok (.lreturn, 1) ∧ M.2.2.2 = some .long
  | _ => False
abbrev QT : Type := Option Value → Nat → (Nat → PC) → Prop
def Rt (M : Mt) (Q : QT) (p : Program) (l : Launch) (e : Env) (R : Room) (s : State) (m : MethodId) (args : Array Value) (below : List Frame) (meth : Method) (c : Code) (Z : State → Prop) (D : va_G) (cA : Nat → ClassId) (sz : Nat) (zd : Nat → Nat) (n0 : Nat) (ad0 : Nat → Nat) (CM SM : Nat) : Prop :=
  ∀ (ad : Nat → Nat) (H : Heap) (locs : List Loc) (cells slots : Nat) (ls : Array Slot) (n : Nat) (h : Nat → PC) (r : Option Value) (pc : Nat), Hs D cA sz zd ad n h H → Ext n0 ad0 n ad → va_S (fun q => sz ≤ q) s.heap H locs → cells ≤ CM → slots ≤ SM → retd M pc r → Q r n h → W p l e R s m args below meth c H locs cells slots Z (F0 m pc ls (r.toList.map (mv ad)))
def Cx (F L : Nat) (M : Mt) (Q : QT) (p : Program) (l : Launch) (e : Env) (R : Room) (s : State) (m : MethodId) (args : Array Value) (below : List Frame) (meth : Method) (c : Code) (Z : State → Prop) (D : va_G) (cA : Nat → ClassId) (sz : Nat) (zd : Nat → Nat) (xl : Nat) (xs : Nat → Int32) (n0 : Nat) (ad0 : Nat → Nat) (CM SM : Nat) : Prop :=
  p.tables.exec = Jvm.exec ∧ c.code = M.2.1 ∧ c.maxLocals = M.2.2.1 ∧ s.vm.findClass M.1.cls = some m.cls ∧ (∀ w ∈ TB, w.before args s = true) ∧ (∀ w ∈ NT, va_Nw w s) ∧ va_K D vwCl (tyL cA) s ∧ Fz sz zd xl xs s s.heap ∧ va_AO "WishLamp$State" s ∧ meth.name = M.1.name ∧ sz ≤ s.heap.size ∧ (F ≤ R.frames ∧ L ≤ R.locals ∧ CM ≤ R.cells ∧ SM ≤ R.slots) ∧ Rt M Q p l e R s m args below meth c Z D cA sz zd n0 ad0 CM SM
def Ev (xl : Nat) (xs : Nat → Int32) (F L B1 B2 : Nat) (M : Mt) (pc : Nat) (lv : List (Option Value)) (st : List Value) (n : Nat) (h : Nat → PC) (Q : QT) : Prop :=
  ∀ (p : Program) (l : Launch) (e : Env) (R : Room) (s : State) (m : MethodId) (args : Array Value) (below : List Frame) (meth : Method) (c : Code) (Z : State → Prop) (D : va_G) (cA : Nat → ClassId) (sz : Nat) (zd : Nat → Nat) (n0 : Nat) (ad0 : Nat → Nat) (CM SM : Nat),
    Cx F L M Q p l e R s m args below meth c Z D cA sz zd xl xs n0 ad0 CM SM →
    ∀ (ad : Nat → Nat) (H : Heap) (locs : List Loc) (cells slots : Nat) (ls : Array Slot), Hs D cA sz zd ad n h H → Ext n0 ad0 n ad → va_S (fun q => sz ≤ q) s.heap H locs → cells + B1 ≤ CM → slots + B2 ≤ SM → LH ls M.2.2.1 ad lv → okL n lv → okl n st →
      W p l e R s m args below meth c H locs cells slots Z (F0 m pc ls (st.map (mv ad)))
/-- the locals with which a method begins -/
def entA : List Value → List (Option Value)
  | [] => []
  | v :: vs => if v.category = 2 then some v :: none :: entA vs else some v :: entA vs
def ent (vs : List Value) (n : Nat) : List (Option Value) := entA vs ++ List.replicate (n - (entA vs).length) none
/-- a method's run, as it comes out -/
def Rn (xl : Nat) (xs : Nat → Int32) (F L b1 b2 : Nat) (M : Mt) (vs : List Value) (n : Nat) (h : Nat → PC) (r : Option Value) (n' : Nat) (h' : Nat → PC) : Prop := ∀ Q : QT, Q r n' h' → Ev xl xs F L b1 b2 M 0 (ent vs M.2.2.1) [] n h Q
section EV
variable {xl : Nat} {xs : Nat → Int32} {F L B1 B2 : Nat} {M : Mt} {pc : Nat} {lv : List (Option Value)} {st : List Value} {n : Nat} {h : Nat → PC} {Q : QT}
/-- an instruction on the stack alone -/
theorem ev_pure {pc2 : Nat} {st2 : List Value} (ok : ∀ n, okl n st → okl n st2)
    (step : ∀ (p : Program) (l : Launch) (e : Env) (R : Room) (s : State) (m : MethodId) (args : Array Value) (below : List Frame) (meth : Method) (c : Code) (H : Heap) (locs : List Loc) (cells slots : Nat) (Z : State → Prop) (ls : Array Slot) (ad : Nat → Nat), p.tables.exec = Jvm.exec → c.code = M.2.1 → s.vm.findClass M.1.cls = some m.cls → (∀ w ∈ TB, w.before args s = true) → W p l e R s m args below meth c H locs cells slots Z (F0 m pc2 ls (st2.map (mv ad))) → W p l e R s m args below meth c H locs cells slots Z (F0 m pc ls (st.map (mv ad))))
    (k : Ev xl xs F L B1 B2 M pc2 lv st2 n h Q) : Ev xl xs F L B1 B2 M pc lv st n h Q := by
  intro p l e R s m args below meth c Z D cA sz zd n0 ad0 CM SM C ad H locs cells slots ls hH hE hS hc hs hl o1 o2
  exact step _ _ _ _ _ _ _ _ _ _ _ _ _ _ _ _ _ C.1 C.2.1 C.2.2.2.1 C.2.2.2.2.1 (k _ _ _ _ _ _ _ _ _ _ _ _ _ _ _ _ _ _ _ C ad H locs cells slots ls hH hE hS hc hs hl o1 (ok n o2))
theorem okl_i {n : Nat} {l : List Value} {x : Int32} (h : okl n l) : okl n (.int x :: l) := fun v hv => by
  rcases List.mem_cons.mp hv with e | e
  · subst e; exact trivial
  · exact h v e
theorem okl_l {n : Nat} {l : List Value} {x : Int64} (h : okl n l) : okl n (.long x :: l) := fun v hv => by
  rcases List.mem_cons.mp hv with e | e
  · subst e; exact trivial
  · exact h v e
theorem okl_t {n : Nat} {l : List Value} {v : Value} (h : okl n (v :: l)) : okl n l := fun w hw => h w (List.mem_cons_of_mem _ hw)
theorem okl_h {n : Nat} {l : List Value} {v : Value} (h : okl n (v :: l)) : okv n v := h v List.mem_cons_self
theorem okl_c {n : Nat} {l : List Value} {v : Value} (h1 : okv n v) (h : okl n l) : okl n (v :: l) := fun w hw => by
  rcases List.mem_cons.mp hw with e | e
  · subst e; exact h1
  · exact h w e
end EV
