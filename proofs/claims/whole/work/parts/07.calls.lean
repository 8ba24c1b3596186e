section CALLS
variable {xl : Nat} {xs : Nat → Int32} {F L B1 B2 : Nat} {M : Mt} {pc : Nat} {lv lv' : List (Option Value)} {st : List Value} {n : Nat} {h : Nat → PC} {Q : QT} {q : Nat}
/-- what a callee is given, and what it gives back -/
def PcE (D : va_G) (cA : Nat → ClassId) (sz : Nat) (zd : Nat → Nat) (xl : Nat) (xs : Nat → Int32) (ad : Nat → Nat) (n : Nat) (h : Nat → PC) (av : List Value) : Array Value → State → Prop := fun v U => v = av.toArray ∧ Hs D cA sz zd ad n h U.heap ∧ (∀ w ∈ NT, va_Nw w U) ∧ va_K D vwCl (tyL cA) U ∧ Fz sz zd xl xs U U.heap ∧ va_AO "WishLamp$State" U ∧ sz ≤ U.heap.size
def QcE (D : va_G) (cA : Nat → ClassId) (sz : Nat) (zd : Nat → Nat) (ad : Nat → Nat) (n : Nat) (Q : QT) : Array Value → State → Outcome → State → Prop := fun _ s o t => ∃ (r : Option Value) (n' : Nat) (h' : Nat → PC) (ad' : Nat → Nat), o = .returned (r.map (mv ad')) ∧ Q r n' h' ∧ (∀ v, r = some v → okv 0 v) ∧ Hs D cA sz zd ad' n' h' t.heap ∧ Ext n ad n' ad' ∧ va_F (fun q => sz ≤ q) s t
def wsM (M : Mt) : List Cond := Cond.code M.1 M.2.1 M.2.2.1 M.2.2.2 :: TB
theorem wsM_good {M : Mt} {na : Nat} (hb : CB M na) : GoodIn TB (wsM M) := fun w hw => by
  rcases List.mem_cons.mp hw with e | e
  · rw [e]; exact tb_good _ hb.1
  · exact tb_good _ e
theorem entA_eq (ad : Nat → Nat) : ∀ vs : List Value, (lg_sl (vs.map (mv ad))).length = (entA vs).length
  | [] => rfl
  | v :: vs => by
    have ih := entA_eq ad vs
    unfold lg_sl at ih ⊢
    rw [List.map_cons, List.flatMap_cons, List.length_append, ih, mv_cat]
    by_cases hc : v.category = 2
    · simp [entA, hc]; omega
    · simp [entA, hc]; omega
theorem ent_at (ad : Nat → Nat) : ∀ (vs : List Value) (b i : Nat) (v : Value), (entA vs)[i]? = some (some v) → (b + i, mv ad v) ∈ lv_args b (vs.map (mv ad))
  | [], b, i, v, h => by simp [entA] at h
  | w :: vs, b, i, v, h => by
    rw [List.map_cons]
    unfold lv_args
    rw [mv_cat]
    by_cases hc : w.category = 2
    · simp only [entA, hc, if_true] at h
      match i, h with
      | 0, h =>
        simp at h
        rw [h]; exact List.mem_cons_self
      | 1, h => simp at h
      | i + 2, h =>
        have h1 : (entA vs)[i]? = some (some v) := by simpa using h
        have := ent_at ad vs (b + 2) i v h1
        rw [show b + 2 + i = b + (i + 2) by omega] at this
        simp only [hc, if_true]
        exact List.mem_cons_of_mem _ this
    · simp only [entA, hc, if_false] at h
      match i, h with
      | 0, h =>
        simp at h
        rw [h]; exact List.mem_cons_self
      | i + 1, h =>
        have h1 : (entA vs)[i]? = some (some v) := by simpa using h
        have := ent_at ad vs (b + 1) i v h1
        rw [show b + 1 + i = b + (i + 1) by omega] at this
        simp only [hc, if_false]
        exact List.mem_cons_of_mem _ this
theorem ent_LH (ad : Nat → Nat) (vs : List Value) {nL : Nat} (hl : (entA vs).length ≤ nL) : LH ((lg_sl (vs.map (mv ad)) ++ List.replicate (nL - (lg_sl (vs.map (mv ad))).length) Slot.unset).toArray) nL ad (ent vs nL) := by
  have h0 := lv_entry (vs.map (mv ad)) (n := nL) (by rw [entA_eq]; exact hl)
  refine ⟨⟨h0.1, h0.2.1⟩, by simp [ent]; omega, fun i v hi => ?_⟩
  unfold ent at hi
  by_cases h1 : i < (entA vs).length
  · rw [List.getElem?_append_left h1] at hi
    have := ent_at ad vs 0 i v hi
    rw [Nat.zero_add] at this
    exact h0.2.2 _ this
  · rw [List.getElem?_append_right (by omega), List.getElem?_replicate] at hi
    split at hi <;> cases hi
theorem okL_ent {n : Nat} {vs : List Value} {nL : Nat} (hv : okl n vs) : okL n (ent vs nL) := by
  have key : ∀ vs : List Value, okl n vs → ∀ v, some v ∈ entA vs → okv n v := by
    intro vs
    induction vs with
    | nil => intro _ v h; simp [entA] at h
    | cons w vs ih =>
      intro ho v hm
      unfold entA at hm
      split at hm
      · rcases List.mem_cons.mp hm with e | e
        · cases e; exact okl_h ho
        · rcases List.mem_cons.mp e with e | e
          · cases e
          · exact ih (okl_t ho) v e
      · rcases List.mem_cons.mp hm with e | e
        · cases e; exact okl_h ho
        · exact ih (okl_t ho) v e
  intro v hm
  unfold ent at hm
  rcases List.mem_append.mp hm with e | e
  · exact key vs hv v e
  · have := (List.mem_replicate.mp e).2
    cases this
theorem Ext.rf {n : Nat} {ad : Nat → Nat} : Ext n ad n ad := ⟨Nat.le_refl _, fun _ _ => rfl⟩
theorem Ext.tr {n0 n1 n2 : Nat} {a0 a1 a2 : Nat → Nat} (h1 : Ext n0 a0 n1 a1) (h2 : Ext n1 a1 n2 a2) : Ext n0 a0 n2 a2 := ⟨Nat.le_trans h1.1 h2.1, fun q hq => (h2.2 q (by have := h1.1; omega)).trans (h1.2 q hq)⟩
/-- a pure run gives a contract of the machine -/
theorem ev_met {M' : Mt} {na F' L' b1 b2 : Nat} {vs : List Value} {Q' : QT} (l : Launch) (D : va_G) (cA : Nat → ClassId) (sz : Nat) (zd ad : Nat → Nat) (hb : CB M' na) (hlen : (entA vs).length ≤ M'.2.2.1) (hok : okl n vs) (k : Ev xl xs F' L' b1 b2 M' 0 (ent vs M'.2.2.1) [] n h Q') :
    Met l M'.1 (wsM M') { frames := F', cells := b1, slots := b2, locals := L' } (PcE D cA sz zd xl xs ad n h (vs.map (mv ad))) (QcE D cA sz zd ad n Q') b1 b2 (fun q => sz ≤ q) := by
  refine Met.ofW (cc := M'.2.1) (maxL := M'.2.2.1) (ret := M'.2.2.2) hb.2.2.2 rfl ?_
  intro p e s m args below meth c s₁ B hml hv
  obtain ⟨rfl, hH, hnw, hK, hF, hao, hsz⟩ := hv
  have hts := atoms_spec (ws := wsM M') B.pre
  rw [lg_entry_eq]
  refine k p l e _ s m _ below meth c _ D cA sz zd n ad b1 b2 ⟨B.exec, B.bytes, hml, findClass_of_methodNamed B.named, fun w hw => hts w (List.mem_cons_of_mem _ hw), hnw, hK, hF, hao, (name_of_methodNamed B.named B.method).1, hsz, ⟨Nat.le_refl _, Nat.le_refl _, Nat.le_refl _, Nat.le_refl _⟩, ?_⟩ ad s.heap [] 0 0 _ hH Ext.rf va_S.rf (by omega) (by omega) (ent_LH ad vs hlen) (okL_ent hok) (fun v hv => by cases hv)
  intro ad1 H locs cells slots ls n1 h1 r pc hH1 hE1 hS1 hc1 hs1 hrd hQ1
  refine W.widen hc1 hs1 ?_
  have hlocks := B.notSynchronized
  have hret := B.returns
  match r, hrd, hQ1 with
  | none, hrd, hQ1 =>
    exact W.vret B.exec B.bytes (hret.trans hrd.2) (fun t ht hW => ⟨none, n1, h1, ad1, rfl, hQ1, (fun v h => (by cases h)), by rw [ht]; exact hH1, hE1, hS1.F ht⟩) hS1.2.2 hrd.1
  | some (.int v), hrd, hQ1 =>
    obtain ⟨hd, ty, hty, hn⟩ := hrd
    exact W.zret B.exec B.bytes (hret.trans hty) hn (fun t ht hW => ⟨some (.int v), n1, h1, ad1, rfl, hQ1, (fun v h => (by cases h; exact trivial)), by rw [ht]; exact hH1, hE1, hS1.F ht⟩) hS1.2.2 hd
  | some (.long v), hrd, hQ1 =>
    exact W.lret B.exec B.bytes (hret.trans hrd.2) (fun t ht hW => ⟨some (.long v), n1, h1, ad1, rfl, hQ1, (fun v h => (by cases h; exact trivial)), by rw [ht]; exact hH1, hE1, hS1.F ht⟩) hS1.2.2 hrd.1
  | some (.ref _), hrd, _ => exact absurd hrd (fun h => h)
  | some .null, hrd, _ => exact absurd hrd (fun h => h)
  | some (.float _), hrd, _ => exact absurd hrd (fun h => h)
  | some (.double _), hrd, _ => exact absurd hrd (fun h => h)
theorem nt_warm {s U : State} (hW : s.WarmedH U.vm) (hz : ∀ w ∈ NT, va_Nw w s) : ∀ w ∈ NT, va_Nw w U := by
  intro w hw
  have h1 := (List.mem_filter.mp hw).2
  cases w <;> first | (simp [isNest] at h1; done) | exact va_Nw.warmF hW (hz _ hw) | exact va_Nw.warmM hW (hz _ hw)
theorem pcE_blind {D : va_G} {cA : Nat → ClassId} {sz : Nat} {zd ad : Nat → Nat} {av : List Value} : FrameBlind (PcE D cA sz zd xl xs ad n h av) := by
  intro a U g mk hq
  obtain ⟨h0, h1, h2, h3, h4, h5, h6⟩ := hq
  exact ⟨h0, h1, fun w hw => by
    have hwt := (List.mem_filter.mp hw).2
    exact va_Nw.same (u := U) (U := U.calling g mk a) (by cases w <;> first | rfl | (simp [isNest] at hwt)) rfl (h2 w hw), va_K.moved (u := U) (U := U.calling g mk a) (Vm.Alike.refl U.vm) h3, Fz.moved (u := U) (U := U.calling g mk a) (Vm.Alike.refl U.vm) h4, va_AO.moved (u := U) (U := U.calling g mk a) (Vm.Alike.refl U.vm) h5, h6⟩
end CALLS
section CALL2
variable {xl : Nat} {xs : Nat → Int32} {F L B1 B2 : Nat} {M : Mt} {pc : Nat} {lv lv' : List (Option Value)} {st : List Value} {n : Nat} {h : Nat → PC} {Q : QT} {q : Nat}
variable {p : Program} {l : Launch} {e : Env} {R : Room} {s : State} {m : MethodId} {args : Array Value} {below : List Frame} {meth : Method} {c : Code} {Z : State → Prop} {D : va_G} {cA : Nat → ClassId} {sz : Nat} {zd : Nat → Nat} {n0 : Nat} {ad0 : Nat → Nat} {CM SM : Nat}
theorem pcE_at {ad : Nat → Nat} {H : Heap} {locs : List Loc} {av : List Value} (C : Cx F L M Q p l e R s m args below meth c Z D cA sz zd xl xs n0 ad0 CM SM) (hH : Hs D cA sz zd ad n h H) (hS : va_S (fun q => sz ≤ q) s.heap H locs) : ∀ U : State, U.heap = H → s.WarmedH U.vm → PcE D cA sz zd xl xs ad n h av av.toArray U := by
  intro U hU hW
  subst hU
  exact ⟨rfl, hH, nt_warm hW C.nw, va_K.moved hW.alike C.hK, (C.hF.kept (fun a h1 h2 => hS.2.1 a h1 h2)).moved hW.alike, va_AO.moved hW.alike C.ao, Nat.le_trans C.hsz hS.1⟩
/-- behind the call -/
theorem ev_back {ad : Nat → Nat} {H : Heap} {locs : List Loc} {cells slots b1 b2 : Nat} {ls : Array Slot} {a : Array Value} {Q' : QT} {rest st0 : List Value} (C : Cx F L M Q p l e R s m args below meth c Z D cA sz zd xl xs n0 ad0 CM SM) (hE : Ext n0 ad0 n ad) (hS : va_S (fun q => sz ≤ q) s.heap H locs) (h1 : cells + B1 ≤ CM) (h2 : slots + B2 ≤ SM) (hb1 : b1 ≤ B1) (hb2 : b2 ≤ B2) (hl : LH ls M.2.2.1 ad lv) (o1 : okL n lv) (o2 : okl n rest)
    (hr : va_Run p l e R s m args below meth c H locs cells slots b1 b2 (F0 m pc ls st0) (rest.map (mv ad)) (QcE D cA sz zd ad n Q' a) (fun q => sz ≤ q))
    (kk : ∀ r n' h', Q' r n' h' → Ev xl xs F L (B1 - b1) (B2 - b2) M (pc + 3) lv (r.toList ++ rest) n' h' Q) : W p l e R s m args below meth c H locs cells slots Z (F0 m pc ls st0) := by
  intro T hT X
  obtain ⟨v, st₀, t, T', Lc, e0, X', hL, e1, e2, ⟨r, n', h', ad', hv, hQ', hrv, hH', hE', hF⟩, stp⟩ := hr T hT X
  have hS' : va_S (fun q => sz ≤ q) s.heap T'.heap (locs ++ Lc) := ⟨Nat.le_trans hS.1 (by rw [e1, ← e0]; exact hF.1), fun x g1 g2 => by
      rw [e1, hF.2 x (by rw [e0]; exact Nat.lt_of_lt_of_le g1 hS.1) g2, e0]
      exact hS.2.1 x g1 g2, fun x hx => by
      rcases List.mem_append.mp hx with h | h
      · exact hS.2.2 x h
      · exact hL x h⟩
  have hag : ∀ x, (x < n ∨ 1000 ≤ x) → ad' x = ad x := hE'.2
  have hl' : LH ls M.2.2.1 ad' lv := ⟨hl.1, hl.2.1, fun i w hi => by
    rw [mv_eq hag (o1 w (List.mem_of_getElem? hi))]
    exact hl.2.2 i w hi⟩
  have o3 : okl n' (r.toList ++ rest) := fun w hw => by
    rcases List.mem_append.mp hw with h | h
    · cases r with
      | none => cases h
      | some z =>
        rw [Option.toList_some, List.mem_singleton] at h
        rw [h]
        exact okv_mono (Nat.zero_le _) (hrv z rfl)
    · exact okv_mono hE'.1 (o2 w h)
  have w := kk r n' h' hQ' p l e R s m args below meth c Z D cA sz zd n0 ad0 CM SM C ad' T'.heap (locs ++ Lc) (cells + b1) (slots + b2) ls (by rw [e1]; exact hH') (hE.tr hE') hS' (by omega) (by omega) hl' (okL_mono hE'.1 o1) o3
  obtain ⟨t2, a1, c1⟩ := w T' rfl X'
  refine ⟨t2, stp t2 ?_, c1⟩
  have hvr : v = r.map (mv ad') := by
    have := hv
    injection this
  have e9 : v.toList ++ rest.map (mv ad) = (r.toList ++ rest).map (mv ad') := by
    rw [List.map_append, mvl_eq hag o2, hvr]
    cases r <;> rfl
  rw [e9]
  exact a1
end CALL2
section CALL3
variable {xl : Nat} {xs : Nat → Int32} {F L B1 B2 : Nat} {M : Mt} {pc : Nat} {lv lv' : List (Option Value)} {n : Nat} {h : Nat → PC} {Q : QT} {q : Nat}
theorem cats_map (ad : Nat → Nat) (l : List Value) : ((l.map (mv ad)).map fun v => v.category).sum = (l.map fun v => v.category).sum := by
  rw [List.map_map]
  congr 1
  exact List.map_congr_left (fun v _ => mv_cat ad v)
theorem hR_of {F L F' L' k CM SM : Nat} {R : Room} (h : F ≤ R.frames ∧ L ≤ R.locals ∧ CM ≤ R.cells ∧ SM ≤ R.slots) (h1 : F' + 1 ≤ F) (h2 : 19 + k + L' ≤ L) : F' + 1 ≤ R.frames ∧ 8 + (k + 11) + L' ≤ R.locals := ⟨Nat.le_trans h1 h.1, by omega⟩
theorem ev_callV {idx na b b1 b2 F' L' ci : Nat} {M' : Mt} {As rest : List Value} {fs : List Value} {r : Option Value} {n' : Nat} {h' : Nat → PC} {cr : vw_C} (d : decode M.2.1 pc = .ok (.invokevirtual idx, 3)) (ca : CV M.1.cls idx M' na) (hn : As.length = na) (hc : h b = .inr (ci, fs)) (hbn : b < n) (hcr : vwCl[ci]? = some cr) (hcl : cr.1 = M'.1.cls) (hlen : (entA (.ref b :: As)).length ≤ M'.2.2.1) (hw : (rest.map fun v => v.category).sum ≤ 8) (hF : F' + 1 ≤ F) (hL : 19 + M'.2.2.1 + L' ≤ L) (hb1 : b1 ≤ B1) (hb2 : b2 ≤ B2)
    (hR : Rn xl xs F' L' b1 b2 M' (.ref b :: As) n h r n' h') (hq : pc + 3 = q) (k : Ev xl xs F L (B1 - b1) (B2 - b2) M q lv (r.toList ++ rest) n' h' Q) : Ev xl xs F L B1 B2 M pc lv (As.reverse ++ .ref b :: rest) n h Q := by
  subst hq
  intro p l e R s m args below meth cc Z D cA sz zd n0 ad0 CM SM C ad H locs cells slots ls hH hE hS h1 h2 hl o1 o2
  have oA : okl n (.ref b :: As) := fun v hv => o2 v (by
    rcases List.mem_cons.mp hv with e | e
    · rw [e]; simp
    · simp [e])
  have oR : okl n rest := fun v hv => o2 v (by simp [hv])
  have hM := ev_met l D cA sz zd ad ca.1 hlen oA (hR (fun r2 n2 h2 => r2 = r ∧ n2 = n' ∧ h2 = h') ⟨rfl, rfl, rfl⟩)
  have hR' := C.hR
  rw [List.map_append, List.map_reverse, List.map_cons]
  refine ev_back C hE hS h1 h2 hb1 hb2 hl o1 oR (va_runV (As := As.map (mv ad)) (rest := rest.map (mv ad)) (Ts := TB) (own := M.1.cls) (C := M'.1.cls) (n := na) (b := ad b) ⟨C.hx, C.hb, C.hml, C.own, C.ts⟩ hM (cwV na C.ts (fun w hw => ?_) rfl rfl rfl ⟨rfl, ca.1.2.2.1⟩ (hR_of hR' hF hL)) ⟨pcE_blind, ?_, pcE_at C hH hS⟩ rfl (by rw [List.length_map]; exact hn) hl.1.1 rfl (lv_room (by rw [cats_map]; exact hw)) d ⟨by omega, by omega⟩) (fun r2 n2 h2 hz => by obtain ⟨rfl, rfl, rfl⟩ := hz; exact k)
  · unfold wsV at hw
    rcases List.mem_append.mp hw with hw | hw
    · refine tb_good w ?_
      simp only [List.mem_cons, List.not_mem_nil, or_false] at hw
      rcases hw with rfl | rfl | rfl | rfl
      · exact ca.2.1
      · exact ca.2.2.1
      · exact ca.2.2.2
      · exact ca.1.2.1
    · exact wsM_good ca.1 w hw
  · have := va_recv C.hK hH.2.2.1 hcr (hs_at hH hbn hc)
    rw [hcl] at this
    exact this
theorem ev_callS {idx na b1 b2 F' L' : Nat} {M' : Mt} {As rest : List Value} {r : Option Value} {n' : Nat} {h' : Nat → PC} (d : decode M.2.1 pc = .ok (.invokestatic idx, 3)) (ca : CS M.1.cls idx M' na) (hn : As.length = na) (hlen : (entA As).length ≤ M'.2.2.1) (hw : (rest.map fun v => v.category).sum ≤ 8) (hF : F' + 1 ≤ F) (hL : 19 + M'.2.2.1 + L' ≤ L) (hb1 : b1 ≤ B1) (hb2 : b2 ≤ B2)
    (hR : Rn xl xs F' L' b1 b2 M' As n h r n' h') (hq : pc + 3 = q) (k : Ev xl xs F L (B1 - b1) (B2 - b2) M q lv (r.toList ++ rest) n' h' Q) : Ev xl xs F L B1 B2 M pc lv (As.reverse ++ rest) n h Q := by
  subst hq
  intro p l e R s m args below meth cc Z D cA sz zd n0 ad0 CM SM C ad H locs cells slots ls hH hE hS h1 h2 hl o1 o2
  have oA : okl n As := fun v hv => o2 v (by simp [hv])
  have oR : okl n rest := fun v hv => o2 v (by simp [hv])
  have hM := ev_met l D cA sz zd ad ca.1 hlen oA (hR (fun r2 n2 h2 => r2 = r ∧ n2 = n' ∧ h2 = h') ⟨rfl, rfl, rfl⟩)
  have hR' := C.hR
  rw [List.map_append, List.map_reverse]
  refine ev_back C hE hS h1 h2 hb1 hb2 hl o1 oR (va_runS (As := As.map (mv ad)) (rest := rest.map (mv ad)) (Ts := TB) (own := M.1.cls) (n := na) ⟨C.hx, C.hb, C.hml, C.own, C.ts⟩ hM ⟨callB_of na C.ts (wsM_good ca.1) rfl rfl rfl (C.ts _ ca.1.2.1) (C.ts _ ca.2.1) ca.1.2.2.1 (hR_of hR' hF hL), C.ts _ ca.2.2⟩ ⟨pcE_blind, pcE_at C hH hS⟩ rfl (by rw [List.length_map]; exact hn) hl.1.1 rfl (lv_room (by rw [cats_map]; exact hw)) d ⟨by omega, by omega⟩) (fun r2 n2 h2 hz => by obtain ⟨rfl, rfl, rfl⟩ := hz; exact k)
theorem ev_callSn {idx na b1 b2 F' L' : Nat} {M' : Mt} {As rest : List Value} {r : Option Value} {n' : Nat} {h' : Nat → PC} (d : decode M.2.1 pc = .ok (.invokestatic idx, 3)) (ca : CSn M.1.cls idx M' na) (hn : As.length = na) (hlen : (entA As).length ≤ M'.2.2.1) (hw : (rest.map fun v => v.category).sum ≤ 8) (hF : F' + 1 ≤ F) (hL : 19 + M'.2.2.1 + L' ≤ L) (hb1 : b1 ≤ B1) (hb2 : b2 ≤ B2)
    (hR : Rn xl xs F' L' b1 b2 M' As n h r n' h') (hq : pc + 3 = q) (k : Ev xl xs F L (B1 - b1) (B2 - b2) M q lv (r.toList ++ rest) n' h' Q) : Ev xl xs F L B1 B2 M pc lv (As.reverse ++ rest) n h Q := by
  subst hq
  intro p l e R s m args below meth cc Z D cA sz zd n0 ad0 CM SM C ad H locs cells slots ls hH hE hS h1 h2 hl o1 o2
  have oA : okl n As := fun v hv => o2 v (by simp [hv])
  have oR : okl n rest := fun v hv => o2 v (by simp [hv])
  have hM := ev_met l D cA sz zd ad ca.1 hlen oA (hR (fun r2 n2 h2 => r2 = r ∧ n2 = n' ∧ h2 = h') ⟨rfl, rfl, rfl⟩)
  have hR' := C.hR
  obtain ⟨cb, ⟨host, hlk⟩, hst⟩ := ca
  rw [List.map_append, List.map_reverse]
  refine ev_back C hE hS h1 h2 hb1 hb2 hl o1 oR (va_runSN (As := As.map (mv ad)) (rest := rest.map (mv ad)) (Ts := TB) (own := M.1.cls) (host := host) (n := na) ⟨C.hx, C.hb, C.hml, C.own, C.ts⟩ hM ⟨va_cnB na C.ts (wsM_good cb) rfl rfl rfl (C.nw _ hlk) (C.ts _ cb.2.1) cb.2.2.1 (hR_of hR' hF hL), C.ts _ hst, trivial⟩ ⟨pcE_blind, pcE_at C hH hS⟩ rfl (by rw [List.length_map]; exact hn) hl.1.1 rfl (lv_room (by rw [cats_map]; exact hw)) d ⟨by omega, by omega⟩) (fun r2 n2 h2 hz => by obtain ⟨rfl, rfl, rfl⟩ := hz; exact k)
theorem ev_callI {idx na b b1 b2 F' L' : Nat} {M' : Mt} {As rest : List Value} {r : Option Value} {n' : Nat} {h' : Nat → PC} (d : decode M.2.1 pc = .ok (.invokespecial idx, 3)) (ca : CN M.1.cls idx M' na) (hn : As.length = na) (hlen : (entA (.ref b :: As)).length ≤ M'.2.2.1) (hw : (rest.map fun v => v.category).sum ≤ 8) (hF : F' + 1 ≤ F) (hL : 19 + M'.2.2.1 + L' ≤ L) (hb1 : b1 ≤ B1) (hb2 : b2 ≤ B2)
    (hR : Rn xl xs F' L' b1 b2 M' (.ref b :: As) n h r n' h') (hq : pc + 3 = q) (k : Ev xl xs F L (B1 - b1) (B2 - b2) M q lv (r.toList ++ rest) n' h' Q) : Ev xl xs F L B1 B2 M pc lv (As.reverse ++ .ref b :: rest) n h Q := by
  subst hq
  intro p l e R s m args below meth cc Z D cA sz zd n0 ad0 CM SM C ad H locs cells slots ls hH hE hS h1 h2 hl o1 o2
  have oA : okl n (.ref b :: As) := fun v hv => o2 v (by
    rcases List.mem_cons.mp hv with e | e
    · rw [e]; simp
    · simp [e])
  have oR : okl n rest := fun v hv => o2 v (by simp [hv])
  have hM := ev_met l D cA sz zd ad ca.1 hlen oA (hR (fun r2 n2 h2 => r2 = r ∧ n2 = n' ∧ h2 = h') ⟨rfl, rfl, rfl⟩)
  have hR' := C.hR
  obtain ⟨cb, hlk, hin, hnm, hre⟩ := ca
  rw [List.map_append, List.map_reverse, List.map_cons]
  refine ev_back C hE hS h1 h2 hb1 hb2 hl o1 oR (va_runI (As := As.map (mv ad)) (rest := rest.map (mv ad)) (Ts := TB) (own := M.1.cls) (n := na) (b := ad b) ⟨C.hx, C.hb, C.hml, C.own, C.ts⟩ hM ⟨callB_of na C.ts (wsM_good cb) (by unfold wsM; rw [hre]) rfl rfl (C.ts _ cb.2.1) (C.ts _ hlk) cb.2.2.1 (hR_of hR' hF hL), hnm, C.ts _ hin⟩ ⟨pcE_blind, pcE_at C hH hS⟩ rfl (by rw [List.length_map]; exact hn) hl.1.1 rfl (lv_room (by rw [cats_map]; exact hw)) d ⟨by omega, by omega⟩) (fun r2 n2 h2 hz => by obtain ⟨rfl, rfl, rfl⟩ := hz; exact k)
theorem ev_callIn {idx na b b1 b2 F' L' : Nat} {M' : Mt} {As rest : List Value} {r : Option Value} {n' : Nat} {h' : Nat → PC} (d : decode M.2.1 pc = .ok (.invokespecial idx, 3)) (ca : CNn M.1.cls idx M' na) (hn : As.length = na) (hlen : (entA (.ref b :: As)).length ≤ M'.2.2.1) (hw : (rest.map fun v => v.category).sum ≤ 8) (hF : F' + 1 ≤ F) (hL : 19 + M'.2.2.1 + L' ≤ L) (hb1 : b1 ≤ B1) (hb2 : b2 ≤ B2)
    (hR : Rn xl xs F' L' b1 b2 M' (.ref b :: As) n h r n' h') (hq : pc + 3 = q) (k : Ev xl xs F L (B1 - b1) (B2 - b2) M q lv (r.toList ++ rest) n' h' Q) : Ev xl xs F L B1 B2 M pc lv (As.reverse ++ .ref b :: rest) n h Q := by
  subst hq
  intro p l e R s m args below meth cc Z D cA sz zd n0 ad0 CM SM C ad H locs cells slots ls hH hE hS h1 h2 hl o1 o2
  have oA : okl n (.ref b :: As) := fun v hv => o2 v (by
    rcases List.mem_cons.mp hv with e | e
    · rw [e]; simp
    · simp [e])
  have oR : okl n rest := fun v hv => o2 v (by simp [hv])
  have hM := ev_met l D cA sz zd ad ca.1 hlen oA (hR (fun r2 n2 h2 => r2 = r ∧ n2 = n' ∧ h2 = h') ⟨rfl, rfl, rfl⟩)
  have hR' := C.hR
  obtain ⟨cb, ⟨host, hlk⟩, hin, hnm, hre⟩ := ca
  rw [List.map_append, List.map_reverse, List.map_cons]
  refine ev_back C hE hS h1 h2 hb1 hb2 hl o1 oR (va_runIN (As := As.map (mv ad)) (rest := rest.map (mv ad)) (Ts := TB) (own := M.1.cls) (host := host) (n := na) (b := ad b) ⟨C.hx, C.hb, C.hml, C.own, C.ts⟩ hM ⟨va_cnB na C.ts (wsM_good cb) (by unfold wsM; rw [hre]) rfl rfl (C.nw _ hlk) (C.ts _ cb.2.1) cb.2.2.1 (hR_of hR' hF hL), hnm, C.ts _ hin⟩ ⟨pcE_blind, pcE_at C hH hS⟩ rfl (by rw [List.length_map]; exact hn) hl.1.1 rfl (lv_room (by rw [cats_map]; exact hw)) d ⟨by omega, by omega⟩) (fun r2 n2 h2 hz => by obtain ⟨rfl, rfl, rfl⟩ := hz; exact k)
end CALL3
