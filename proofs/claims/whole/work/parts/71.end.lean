/-! THE CLAIM OUT OF ONE WALK OF THE LAW'S BODY. Your part is whole_start (and what it stands on); all else here is the same for every law, but numbers. -/
def R_law : String := "WishLampLaw"
def lw_P (b : Addr) (xs : List Int32) (args : Array Value) (s : State) : Prop := args = #[.ref b] ∧ s.IntsAt b xs ∧ xs.length ≤ 320 ∧ (Jvm.Cond.and given_1 narrow_1).before args s = true
def lw_Q (_ : Array Value) (s : State) (o : Outcome) (t : State) : Prop := o = .returned (some (.int 1)) ∧ Framed s o t [] 600000 7302250
def lw_Z (below : List Frame) (a : Array Value) (s : State) : State → Prop := fun t => ∃ o, t.status = .running ∧ Ended t below o ∧ lw_Q a s o t
/-- the law's own end, with 1 on the stack, nothing written that was there before, its room as the claim has it -/
theorem lw_ret {p : Program} {l : Launch} {e : Env} {s : State} {m : MethodId} {below : List Frame} {meth : Method} {c : Code} {b : Nat} (hx : p.tables.exec = Jvm.exec) (hb : c.code = code) (hr : meth.sig.returnType = ret) (hlocks : meth.locks = false) {pc : Nat} {H : Heap} {ls : Array Slot} (hdg : decode code pc = .ok (.ireturn, 1)) : W p l e room_1 s m #[Value.ref b] below meth c H [] 600000 7302250 (lw_Z below #[Value.ref b] s) (F0 m pc ls [.int 1]) := by
  intro T hT X
  obtain ⟨fs, hret, hrun, hended, hW, hframe⟩ := X.leave (v := some (.int 1)) (hlocks := hlocks) (fun h => by rw [hr] at h; cases h)
  have hmeth' : T.vm.method? m = some meth := X.method'
  refine ⟨T.setFrames fs, ?_, .returned (some (.int 1)), hrun, hended, rfl, ⟨_, rfl⟩, hW, hframe⟩
  jvm_step X.here [X.here.top, hx, hb, hdg, hmeth', hr, ret, narrow_b1]
  (try refine ⟨rfl, ?_⟩); (try refine ⟨rfl, ?_⟩)
  first | (intro acts; rw [hret _ acts rfl rfl rfl]) | rw [hret _ _ rfl rfl rfl]
  exact Steps.refl _
/-- what holds at the law's entry: the machine, the code, the tables' words (any of lw_tbl by 'hts w (by decide +kernel)'), the script of L ints xs at the cell b, what the Statement gives of the start (any of its parts by flat_of_before) -/
def lw_At (p : Program) (s : State) (m : MethodId) (meth : Method) (c : Code) (b L : Nat) (xs : Nat → Int32) : Prop :=
  p.tables.exec = Jvm.exec ∧ c.code = code ∧ meth.sig.returnType = ret ∧ c.maxLocals = 4 ∧ s.vm.findClass R_law = some m.cls ∧ (∀ w ∈ lw_tbl, w.before #[Value.ref b] s = true) ∧ va_X b L xs s s.heap ∧ b < s.heap.size ∧ meth.locks = false ∧ (Jvm.Cond.and given_1 narrow_1).before #[Value.ref b] s = true
-- ===== YOUR PART BEGINS =====
/-- YOUR PART: from the entry, for every script of at most 320 ints, the law comes to its end with true -/
theorem whole_start {p : Program} {e : Env} {s : State} {m : MethodId} {below : List Frame} {meth : Method} {c : Code} (l : Launch) {b L : Nat} {xs : Nat → Int32} (hL : L ≤ 320) (C0 : lw_At p s m meth c b L xs) : W p l e room_1 s m #[Value.ref b] below meth c s.heap [] 0 0 (lw_Z below #[Value.ref b] s) (entryFrame m ([Value.ref b] : List Value).toArray 4) := by
  obtain ⟨hx, hb, hr, hml, hown, hts, hX, hbl, hlocks, hgv⟩ := id C0
  have htB : ∀ w ∈ TB, w.before #[Value.ref b] s = true := fun w hw => hts w (List.mem_filter.mp hw).1
  have hs := flat_of_before _ hgv
  have hA0 : ∀ a : Nat, a < s.heap.size → ¬ (fun q : Nat => s.heap.size ≤ q) a := fun a h => Nat.not_le.mpr h
  obtain ⟨c0, i0, n0⟩ := u_known (C := RX0) (T := TX0) (N := 3) (n := 3) htB inX0 (htB _ (tb_in (tt_1 203 rfl) rfl))
  obtain ⟨c1, i1, n1⟩ := u_known (C := RX1) (T := TX1) (N := 3) (n := 3) htB inX1 (htB _ (tb_in (tt_1 106 rfl) rfl))
  obtain ⟨c2, i2, n2⟩ := u_known (C := RX2) (T := TX2) (N := 8) (n := 8) htB inX2 (htB _ (tb_in (tt_1 170 rfl) rfl))
  obtain ⟨c3, i3, n3⟩ := u_known (C := RX3) (T := TX3) (N := 4) (n := 4) htB inX3 (htB _ (tb_in (tt_1 150 rfl) rfl))
  obtain ⟨c4, i4, n4⟩ := u_known (C := RX4) (T := TX4) (N := 16) (n := 16) htB inX4 (htB _ (tb_in (tt_1 21 rfl) rfl))
  obtain ⟨c5, i5, n5⟩ := u_known (C := RX5) (T := TX5) (N := 5) (n := 5) htB inX5 (htB _ (tb_in (tt_1 124 rfl) rfl))
  obtain ⟨c6, i6, n6⟩ := u_known (C := RX6) (T := TX6) (N := 10) (n := 10) htB inX6 (htB _ (tb_in (tt_1 13 rfl) rfl))
  obtain ⟨c7, i7, n7⟩ := u_known (C := RX7) (T := TX7) (N := 29) (n := 29) htB inX7 (htB _ (tb_in (tt_3 211 rfl) rfl))
  obtain ⟨dC, dI, hKc⟩ : ∃ (dC : Nat → ClassId) (dI : Nat → Nat → Nat), ∀ (k : Nat) (q : vw_C), vwCl[k]? = some q → u_Kn s q.1 q.2.1 q.2.2 (dC k) (dI k) := by
    refine ⟨fun k => [c0, c1, c2, c3, c4, c5, c6, c7].getD k c0, fun k => [i0, i1, i2, i3, i4, i5, i6, i7].getD k i0, ?_⟩
    intro k q hq
    match k, hq with
    | 0, hq => cases hq; exact n0
    | 1, hq => cases hq; exact n1
    | 2, hq => cases hq; exact n2
    | 3, hq => cases hq; exact n3
    | 4, hq => cases hq; exact n4
    | 5, hq => cases hq; exact n5
    | 6, hq => cases hq; exact n6
    | 7, hq => cases hq; exact n7
    | k + 8, hq => simp [vwCl] at hq
  obtain ⟨z_POWERS, e_POWERS, t_POWERS⟩ := va_Tof (args := #[Value.ref b]) (tm := (.static "WishLamp" "POWERS" "[I")) (ty := .int) (N := 7) (f := powV) (A := fun q : Nat => s.heap.size ≤ q) (by decide) (hs _ (by decide +kernel)) (va_eqt (z := 7) (hs _ (by decide +kernel))) (fun j hj => by
    match j, hj with
    | 0, _ => exact va_eqt (t := .elem (.static "WishLamp" "POWERS" "[I") (.int 0)) (z := 1) (hs _ (by decide +kernel))
    | 1, _ => exact va_eqt (t := .elem (.static "WishLamp" "POWERS" "[I") (.int 1)) (z := 3) (hs _ (by decide +kernel))
    | 2, _ => exact va_eqt (t := .elem (.static "WishLamp" "POWERS" "[I") (.int 2)) (z := 9) (hs _ (by decide +kernel))
    | 3, _ => exact va_eqt (t := .elem (.static "WishLamp" "POWERS" "[I") (.int 3)) (z := 27) (hs _ (by decide +kernel))
    | 4, _ => exact va_eqt (t := .elem (.static "WishLamp" "POWERS" "[I") (.int 4)) (z := 81) (hs _ (by decide +kernel))
    | 5, _ => exact va_eqt (t := .elem (.static "WishLamp" "POWERS" "[I") (.int 5)) (z := 243) (hs _ (by decide +kernel))
    | 6, _ => exact va_eqt (t := .elem (.static "WishLamp" "POWERS" "[I") (.int 6)) (z := 729) (hs _ (by decide +kernel))
    | j + 7, h => exact absurd h (by omega)) hA0
  have s_POWERS := va_Zof (A := fun q : Nat => s.heap.size ≤ q) (hts _ (tt_2 3 rfl)) (hts _ (tt_1 1 rfl)) e_POWERS hA0
  obtain ⟨z_JOINTS, e_JOINTS, t_JOINTS⟩ := va_Tof (args := #[Value.ref b]) (tm := (.static "WishLamp" "JOINTS" "[I")) (ty := .int) (N := 5) (f := joiV) (A := fun q : Nat => s.heap.size ≤ q) (by decide) (hs _ (by decide +kernel)) (va_eqt (z := 5) (hs _ (by decide +kernel))) (fun j hj => by
    match j, hj with
    | 0, _ => exact va_eqt (t := .elem (.static "WishLamp" "JOINTS" "[I") (.int 0)) (z := 38) (hs _ (by decide +kernel))
    | 1, _ => exact va_eqt (t := .elem (.static "WishLamp" "JOINTS" "[I") (.int 1)) (z := 124) (hs _ (by decide +kernel))
    | 2, _ => exact va_eqt (t := .elem (.static "WishLamp" "JOINTS" "[I") (.int 2)) (z := 62) (hs _ (by decide +kernel))
    | 3, _ => exact va_eqt (t := .elem (.static "WishLamp" "JOINTS" "[I") (.int 3)) (z := 61) (hs _ (by decide +kernel))
    | 4, _ => exact va_eqt (t := .elem (.static "WishLamp" "JOINTS" "[I") (.int 4)) (z := 94) (hs _ (by decide +kernel))
    | j + 5, h => exact absurd h (by omega)) hA0
  have s_JOINTS := va_Zof (A := fun q : Nat => s.heap.size ≤ q) (hts _ (tt_2 106 rfl)) (hts _ (tt_1 1 rfl)) e_JOINTS hA0
  obtain ⟨z_SO, e_SO, t_SO⟩ := va_Tof (args := #[Value.ref b]) (tm := (.static "WishLamp" "SO" "[J")) (ty := .long) (N := 6) (f := soV) (A := fun q : Nat => s.heap.size ≤ q) (by decide) (hs _ (by decide +kernel)) (va_eqt (z := 6) (hs _ (by decide +kernel))) (fun j hj => by
    match j, hj with
    | 0, _ => exact va_eqtl (t := .elem (.static "WishLamp" "SO" "[J") (.int 0)) (z := -6148914691236517206) (hs _ (by decide +kernel))
    | 1, _ => exact va_eqtl (t := .elem (.static "WishLamp" "SO" "[J") (.int 1)) (z := -3689348814741910324) (hs _ (by decide +kernel))
    | 2, _ => exact va_eqtl (t := .elem (.static "WishLamp" "SO" "[J") (.int 2)) (z := -1085102592571150096) (hs _ (by decide +kernel))
    | 3, _ => exact va_eqtl (t := .elem (.static "WishLamp" "SO" "[J") (.int 3)) (z := -71777214294589696) (hs _ (by decide +kernel))
    | 4, _ => exact va_eqtl (t := .elem (.static "WishLamp" "SO" "[J") (.int 4)) (z := -281470681808896) (hs _ (by decide +kernel))
    | 5, _ => exact va_eqtl (t := .elem (.static "WishLamp" "SO" "[J") (.int 5)) (z := -4294967296) (hs _ (by decide +kernel))
    | j + 6, h => exact absurd h (by omega)) hA0
  have s_SO := va_Zof (A := fun q : Nat => s.heap.size ≤ q) (hts _ (tt_2 6 rfl)) (hts _ (tt_1 1 rfl)) e_SO hA0
  obtain ⟨z_FEW, e_FEW, t_FEW⟩ := va_Tof (args := #[Value.ref b]) (tm := (.static "WishLamp" "FEW" "[J")) (ty := .long) (N := 7) (f := fewV) (A := fun q : Nat => s.heap.size ≤ q) (by decide) (hs _ (by decide +kernel)) (va_eqt (z := 7) (hs _ (by decide +kernel))) (fun j hj => by
    match j, hj with
    | 0, _ => exact va_eqtl (t := .elem (.static "WishLamp" "FEW" "[J") (.int 0)) (z := 1) (hs _ (by decide +kernel))
    | 1, _ => exact va_eqtl (t := .elem (.static "WishLamp" "FEW" "[J") (.int 1)) (z := 4295033111) (hs _ (by decide +kernel))
    | 2, _ => exact va_eqtl (t := .elem (.static "WishLamp" "FEW" "[J") (.int 2)) (z := 282673290876799) (hs _ (by decide +kernel))
    | 3, _ => exact va_eqtl (t := .elem (.static "WishLamp" "FEW" "[J") (.int 3)) (z := 78557353124790271) (hs _ (by decide +kernel))
    | 4, _ => exact va_eqtl (t := .elem (.static "WishLamp" "FEW" "[J") (.int 4)) (z := 1693212720255467519) (hs _ (by decide +kernel))
    | 5, _ => exact va_eqtl (t := .elem (.static "WishLamp" "FEW" "[J") (.int 5)) (z := 9223372036854775807) (hs _ (by decide +kernel))
    | 6, _ => exact va_eqtl (t := .elem (.static "WishLamp" "FEW" "[J") (.int 6)) (z := -1) (hs _ (by decide +kernel))
    | j + 7, h => exact absurd h (by omega)) hA0
  have s_FEW := va_Zof (A := fun q : Nat => s.heap.size ≤ q) (hts _ (tt_3 27 rfl)) (hts _ (tt_1 1 rfl)) e_FEW hA0
  obtain ⟨a0, k0, p0, f01, f02, f03⟩ := Cond.arrayClass_spec (htB _ w_acI)
  obtain ⟨a1, k1, p1, f11, f12, f13⟩ := Cond.arrayClass_spec (htB _ w_acJ)
  obtain ⟨a2, k2, p2, f21, f22, f23⟩ := Cond.arrayClass_spec (htB _ w_acZ)
  have hao := hts _ (tt_1 104 rfl)
  obtain ⟨p3, a3, k3, f30, -, f32, f33, f31⟩ := Cond.arrayOver_spec hao
  obtain ⟨cA, eA0, eA1, eA2, eA3⟩ : ∃ cA : Nat → ClassId, cA 0 = a0 ∧ cA 1 = a1 ∧ cA 2 = a2 ∧ cA 3 = a3 := ⟨fun k => [a0, a1, a2, a3].getD k a0, rfl, rfl, rfl, rfl⟩
  have hK : va_K (dC, dI) vwCl (tyL cA) s := by
    refine ⟨hKc, fun k q hq => ?_⟩
    unfold tyL at hq
    rw [eA0, eA1, eA2, eA3] at hq
    match k, hq with
    | 0, hq => cases hq; exact ⟨fun n z => ⟨(fun k h => by cases h), k0, f02, p0, f03⟩, f01⟩
    | 1, hq => cases hq; exact ⟨fun n z => ⟨(fun k h => by cases h), k1, f12, p1, f13⟩, f11⟩
    | 2, hq => cases hq; exact ⟨fun n z => ⟨(fun k h => by cases h), k2, f22, p2, f23⟩, f21⟩
    | 3, hq => cases hq; exact ⟨fun n z => ⟨(fun k h => by cases h), k3, f32, p3, f33⟩, k3, p3, f32, f33, f30, f31⟩
    | k + 4, hq => simp at hq
  obtain ⟨zd, eZ0, eZ1, eZ2, eZ3, eZ4⟩ : ∃ zd : Nat → Nat, zd 0 = z_POWERS ∧ zd 1 = z_JOINTS ∧ zd 2 = z_SO ∧ zd 3 = z_FEW ∧ zd 4 = b := ⟨fun k => [z_POWERS, z_JOINTS, z_SO, z_FEW, b].getD k 0, rfl, rfl, rfl, rfl, rfl⟩
  have hF : Fz s.heap.size zd L xs s s.heap := by
    refine ⟨fun k q hq => ?_, ?_⟩
    · match k, hq with
      | 0, hq => cases hq; rw [eZ0]; exact ⟨s_POWERS, t_POWERS⟩
      | 1, hq => cases hq; rw [eZ1]; exact ⟨s_JOINTS, t_JOINTS⟩
      | 2, hq => cases hq; rw [eZ2]; exact ⟨s_SO, t_SO⟩
      | 3, hq => cases hq; rw [eZ3]; exact ⟨s_FEW, t_FEW⟩
      | k + 4, hq => simp [fzT] at hq
    · rw [eZ4]
      obtain ⟨scr, g1, g2, g3, g4, g5⟩ := hX
      exact ⟨scr, g1, g2, g3, by omega, by rw [g4], g5, hA0 b hbl⟩
  have hnw : ∀ w ∈ NT, va_Nw w s := fun w hw => by
    obtain ⟨w1, w2⟩ := List.mem_filter.mp hw
    have w3 := hts w w1
    cases w <;> first | exact va_Nw.of rfl w3 | cases w2
  have hgo := lw_go (nm := meth.name) (xl := L) (xs := xs) (Q := fun r _ _ => r = some (.int 1)) hL (fun _ _ => rfl)
  obtain ⟨ad, eAd⟩ : ∃ ad : Nat → Nat, ad = fun k => zd (k - 1000) := ⟨_, rfl⟩
  have eB : ad 1004 = b := by rw [eAd]; exact eZ4
  rw [lg_entry_eq]
  have hent := ent_LH ad [.ref 1004] (nL := 4) (by decide)
  rw [show ([Value.ref 1004].map (mv ad)) = [Value.ref b] from (by show [Value.ref (ad 1004)] = _; rw [eB])] at hent
  have hok : okL 0 [some (.ref 1004), none, none, none] := okL_ent (n := 0) (vs := [.ref 1004]) (nL := 4) (fun v hv => by cases hv with | head => exact Or.inr (by decide) | tail _ h => cases h)
  refine hgo p l e room_1 s m #[Value.ref b] below meth c _ (dC, dI) cA s.heap.size zd 0 ad 600000 7302250 ⟨hx, hb, hml, hown, htB, hnw, hK, hF, va_AO.of hao, rfl, Nat.le_refl _, ⟨by decide, by decide, by decide, by decide⟩, ?_⟩ ad s.heap [] 0 0 _ ⟨by decide, fun k hk => absurd hk (by omega), fun k q h => by simp [wsOf] at h, ⟨fun i j p q h => by simp [wsOf] at h, fun k q h => by simp [wsOf] at h⟩, fun k _ => by rw [eAd]⟩ Ext.rf va_S.rf (by decide) (by decide) hent hok (fun v hv => by cases hv)
  intro ad1 H locs cells slots ls n1 h1 r pc hH1 hE1 hS1 hc1 hs1 hrd hQ1
  subst hQ1
  refine va_forget (fun q hq => hS1.2.2 q hq) (W.widen hc1 hs1 ?_)
  exact lw_ret hx hb hr hlocks hrd.1
-- ===== YOUR PART ENDS =====
set_option maxHeartbeats 4000000 in
theorem lw_walk (l : Launch) (b : Addr) (xs : List Int32) : MetFree l x (headSpec (Jvm.Cond.code x code maxLocals ret :: tables_1) room_1) (lw_P b xs) (fun _ _ _ _ _ => True) lw_Q := by
  refine MetFree.of_bodyS (code := code) (maxLocals := maxLocals) (ret := ret) (by decide) ?_ ?_
  · intro args s m h hn
    obtain ⟨meth, c, h1, h2, h3, h4, h5, h6, -, -⟩ := Cond.code_spec hn (atoms_spec (ws := Jvm.Cond.code x code maxLocals ret :: tables_1) h _ List.mem_cons_self)
    exact ⟨meth, c, h1, h2, h3, h4, h5, h6⟩
  · intro p e s m args below meth c s₁ B hml0 hP _
    obtain ⟨rfl, hx, hbd, hgv⟩ := hP
    obtain ⟨scr, harrAt, hlist, hof, hsmall⟩ := hx
    obtain ⟨hcb, hkn, -, -⟩ := State.arrayAt?_spec harrAt
    have hown : s.vm.findClass R_law = some m.cls := findClass_of_methodNamed B.named
    have hts0 : ∀ c ∈ (Jvm.Cond.code x code maxLocals ret :: tables_1), c.before #[Value.ref b] s = true := atoms_spec (ws := Jvm.Cond.code x code maxLocals ret :: tables_1) B.pre
    have hts : ∀ w ∈ lw_tbl, w.before #[Value.ref b] s = true := k2_hts_sels lw_privs (fun w hw => hts0 w (List.mem_cons_of_mem _ hw)) lw_privs_ok
    have hml : c.maxLocals = 4 := B.maxLocals_eq (hts0 _ List.mem_cons_self)
    have X₀ : Stand p l e room_1 s m #[Value.ref b] below meth c s₁ [] 0 0 := Stand.of_body B
    have hh0 : s₁.heap = s.heap := by rw [B.state]; rfl
    have hsz : scr.slots.size = xs.length := by rw [← Array.length_toList, hlist, List.length_map]
    have hval : ∀ j : Nat, j < xs.length → scr.slots[j]? = some (.int (xs.getD j 0)) := fun j hj => by
      rw [← Array.getElem?_toList, hlist]
      simp [hj]
    have hbl : b < s.heap.size := (Array.getElem?_eq_some_iff.mp hcb).1
    have hX : va_X b xs.length (fun j => xs.getD j 0) s s.heap := ⟨scr, hcb, hof, hkn, hsz, hval⟩
    have K : W p l e room_1 s m #[Value.ref b] below meth c s₁.heap [] 0 0 (lw_Z below #[Value.ref b] s) (entryFrame m ([Value.ref b] : List Value).toArray 4) := by
      rw [hh0]
      exact whole_start l hbd ⟨B.exec, B.bytes, B.returns, hml, hown, hts, hX, hbl, B.notSynchronized, hgv⟩
    obtain ⟨t, a1, o, b1, b2, b3⟩ := K s₁ rfl X₀
    exact ⟨t, o, a1, b1, b2, b3⟩
theorem lw_pre_spec {args : Array Value} {s : State} (h : (Jvm.Cond.and given_1 narrow_1).before args s = true) (hr : rest_1_c.before args s = true) : ∃ (b : Addr) (xs : List Int32), lw_P b xs args s := by
  have hs := flat_of_before _ h
  have hq := flat_of_before _ hr
  have hc : (Cond.count 1).before args s = true := hs _ (by decide +kernel)
  have harr : (Cond.arrayOf (.arg 0) .int).before args s = true := hs _ (by decide +kernel)
  have hle : (Cond.le (.length (.arg 0)) (.int 320)).before args s = true := hs _ (by decide +kernel)
  have hlen : (Cond.isInt (.length (.arg 0))).before args s = true := hq _ (by decide +kernel)
  have hall : (Cond.all (.arg 0) (.isInt (.elem (.arg 0) (.index 0)))).before args s = true := hq _ (by decide +kernel)
  obtain ⟨b, xs, hb, hx⟩ := State.ints_of_pre rfl harr hlen hall
  have hsm : xs.length < 2 ^ 31 := hx.choose_spec.2.2.2
  have hev : (Term.length (.arg 0)).eval args s none [] s = some (.int xs.length.toInt32) := hx.length_eval hb
  have hv := Cond.le_ints hev (show (Term.int 320).eval args s none [] s = some (.int 320) from rfl)
  have hd : xs.length.toInt32 ≤ 320 := by
    simpa [Cond.before, Cond.holds, hv] using hle
  have hN : xs.length ≤ 320 := (Int32.ofNat_le_ofNat hsm (by decide)).mp (show Int32.ofNat xs.length ≤ Int32.ofNat 320 from hd)
  exact ⟨b, xs, Cond.one_arg hc (show args[0]? = some (.ref b) from hb), hx, hN, h⟩
theorem lw_comes (l : Launch) : Comes l x (Jvm.Cond.code x code maxLocals ret :: tables_1) room_1 (fun tb e args s => Calls_1 tb e args s ∧ rest_1 tb e args s ∧ Pre_1 tb e args s)
    (fun _ _ args s o t => lw_Q args s o t) := by
  intro p e ha hc hk s m args below hf hfit hheap happ hpre
  obtain ⟨b, xs, hP⟩ := lw_pre_spec hpre.2.2 hpre.2.1
  obtain ⟨k, o, h1, h2, h3, hQ⟩ := lw_walk l b xs p e ha hc hk s m args below hf ((Spec.applies_iff_loose hf).mp happ).1 hP trivial
  exact ⟨k, o, h1, h2, h3, hQ⟩
theorem lw_frame {s t : State} {o : Outcome} {args : Array Value} (h : Framed s o t [] 600000 7302250) :
    Framed s o t (fieldLocs frame_1_writes args s ++ arrayLocs frame_1_arrays args s ++ staticLocs frame_1_statics s) 600000 7302250 := h
theorem lw_limb (L : Cond) (hL : ∀ (args : Array Value) (s t : State), L.after args s (.returned (some (.int 1))) t = true) :
    ArmFor flags0 classFile x code maxLocals ret World_1 tables_1 room_1 Calls_1 rest_1 Pre_1
      (fun tb e a s o t => postC L tb e a s o t ∧ Framed s o t (fieldLocs frame_1_writes a s ++ arrayLocs frame_1_arrays a s ++ staticLocs frame_1_statics s) 600000 7302250) := by
  intro l _ _ _ p e ha hc hk s m args below hf hfit hheap happ hpre
  obtain ⟨k, o, h1, h2, h3, rfl, hF⟩ := lw_comes l p e ha hc hk s m args below hf hfit hheap happ hpre
  exact ⟨k, _, h1, h2, h3, hL args s _, lw_frame hF⟩
theorem i_vc : Claimed_1_1 ∧ Claimed_1_2 := ⟨lw_limb limb_1_1 (fun args s t => by simp [limb_1_1, Cond.after, Cond.holds, Cond.value]), lw_limb limb_1_2 (fun args s t => Cond.after_iff.mpr (by
  first | (rw [show limb_1_2 = Cond.eq .result (.int 1) from rfl, Cond.eq_ints (x := 1) (y := 1) rfl rfl]; simp; done) | (simp [limb_1_2, Cond.value, Term.eval]; done)))⟩
