section ROWS
variable {xl : Nat} {xs : Nat → Int32} {F L B1 B2 : Nat} {M : Mt} {pc : Nat} {lv : List (Option Value)} {st : List Value} {n : Nat} {h : Nat → PC} {Q : QT}
theorem ev_iadd {q : Nat} {x y : Int32} (d : decode M.2.1 pc = .ok (.iadd, 1)) (hq : pc + 1 = q) (k : Ev xl xs F L B1 B2 M q lv (.int (x + y) :: st) n h Q) : Ev xl xs F L B1 B2 M pc lv (.int y :: .int x :: st) n h Q := by
  subst hq
  exact ev_pure (fun n o => okl_i (okl_t (okl_t o))) (fun p l e R s m args below meth c H locs cells slots Z ls ad hx hb ho ht kk => lv_iadd hx hb d kk) k
theorem ev_isub {q : Nat} {x y : Int32} (d : decode M.2.1 pc = .ok (.isub, 1)) (hq : pc + 1 = q) (k : Ev xl xs F L B1 B2 M q lv (.int (x - y) :: st) n h Q) : Ev xl xs F L B1 B2 M pc lv (.int y :: .int x :: st) n h Q := by
  subst hq
  exact ev_pure (fun n o => okl_i (okl_t (okl_t o))) (fun p l e R s m args below meth c H locs cells slots Z ls ad hx hb ho ht kk => lv_isub hx hb d kk) k
theorem ev_imul {q : Nat} {x y : Int32} (d : decode M.2.1 pc = .ok (.imul, 1)) (hq : pc + 1 = q) (k : Ev xl xs F L B1 B2 M q lv (.int (x * y) :: st) n h Q) : Ev xl xs F L B1 B2 M pc lv (.int y :: .int x :: st) n h Q := by
  subst hq
  exact ev_pure (fun n o => okl_i (okl_t (okl_t o))) (fun p l e R s m args below meth c H locs cells slots Z ls ad hx hb ho ht kk => lv_imul hx hb d kk) k
theorem ev_iand {q : Nat} {x y : Int32} (d : decode M.2.1 pc = .ok (.iand, 1)) (hq : pc + 1 = q) (k : Ev xl xs F L B1 B2 M q lv (.int (x &&& y) :: st) n h Q) : Ev xl xs F L B1 B2 M pc lv (.int y :: .int x :: st) n h Q := by
  subst hq
  exact ev_pure (fun n o => okl_i (okl_t (okl_t o))) (fun p l e R s m args below meth c H locs cells slots Z ls ad hx hb ho ht kk => lv_iand hx hb d kk) k
theorem ev_ior {q : Nat} {x y : Int32} (d : decode M.2.1 pc = .ok (.ior, 1)) (hq : pc + 1 = q) (k : Ev xl xs F L B1 B2 M q lv (.int (x ||| y) :: st) n h Q) : Ev xl xs F L B1 B2 M pc lv (.int y :: .int x :: st) n h Q := by
  subst hq
  exact ev_pure (fun n o => okl_i (okl_t (okl_t o))) (fun p l e R s m args below meth c H locs cells slots Z ls ad hx hb ho ht kk => lv_ior hx hb d kk) k
theorem ev_ixor {q : Nat} {x y : Int32} (d : decode M.2.1 pc = .ok (.ixor, 1)) (hq : pc + 1 = q) (k : Ev xl xs F L B1 B2 M q lv (.int (x ^^^ y) :: st) n h Q) : Ev xl xs F L B1 B2 M pc lv (.int y :: .int x :: st) n h Q := by
  subst hq
  exact ev_pure (fun n o => okl_i (okl_t (okl_t o))) (fun p l e R s m args below meth c H locs cells slots Z ls ad hx hb ho ht kk => lv_ixor hx hb d kk) k
theorem ev_ishl {q : Nat} {x y : Int32} (d : decode M.2.1 pc = .ok (.ishl, 1)) (hq : pc + 1 = q) (k : Ev xl xs F L B1 B2 M q lv (.int (x <<< (y &&& 31)) :: st) n h Q) : Ev xl xs F L B1 B2 M pc lv (.int y :: .int x :: st) n h Q := by
  subst hq
  exact ev_pure (fun n o => okl_i (okl_t (okl_t o))) (fun p l e R s m args below meth c H locs cells slots Z ls ad hx hb ho ht kk => lv_ishl hx hb d kk) k
theorem ev_ishr {q : Nat} {x y : Int32} (d : decode M.2.1 pc = .ok (.ishr, 1)) (hq : pc + 1 = q) (k : Ev xl xs F L B1 B2 M q lv (.int (x >>> (y &&& 31)) :: st) n h Q) : Ev xl xs F L B1 B2 M pc lv (.int y :: .int x :: st) n h Q := by
  subst hq
  exact ev_pure (fun n o => okl_i (okl_t (okl_t o))) (fun p l e R s m args below meth c H locs cells slots Z ls ad hx hb ho ht kk => lv_ishr hx hb d kk) k
theorem ev_idiv {q : Nat} {x y : Int32} (hne : ¬ y = 0) (d : decode M.2.1 pc = .ok (.idiv, 1)) (hq : pc + 1 = q) (k : Ev xl xs F L B1 B2 M q lv (.int (x / y) :: st) n h Q) : Ev xl xs F L B1 B2 M pc lv (.int y :: .int x :: st) n h Q := by
  subst hq
  exact ev_pure (fun n o => okl_i (okl_t (okl_t o))) (fun p l e R s m args below meth c H locs cells slots Z ls ad hx hb ho ht kk => lv_idiv hx hb d hne kk) k
theorem ev_irem {q : Nat} {x y : Int32} (hne : ¬ y = 0) (d : decode M.2.1 pc = .ok (.irem, 1)) (hq : pc + 1 = q) (k : Ev xl xs F L B1 B2 M q lv (.int (x - x / y * y) :: st) n h Q) : Ev xl xs F L B1 B2 M pc lv (.int y :: .int x :: st) n h Q := by
  subst hq
  exact ev_pure (fun n o => okl_i (okl_t (okl_t o))) (fun p l e R s m args below meth c H locs cells slots Z ls ad hx hb ho ht kk => lv_irem hx hb d hne kk) k
theorem ev_iushr {q : Nat} {x y : Int32} (d : decode M.2.1 pc = .ok (.iushr, 1)) (hq : pc + 1 = q) (k : Ev xl xs F L B1 B2 M q lv (.int ((x.toUInt32 >>> (y.toUInt32 &&& Int32.toUInt32 31)).toInt32) :: st) n h Q) : Ev xl xs F L B1 B2 M pc lv (.int y :: .int x :: st) n h Q := by
  subst hq
  exact ev_pure (fun n o => okl_i (okl_t (okl_t o))) (fun p l e R s m args below meth c H locs cells slots Z ls ad hx hb ho ht kk => lv_iushr hx hb d rfl kk) k
theorem ev_ineg {q : Nat} {x : Int32} (d : decode M.2.1 pc = .ok (.ineg, 1)) (hq : pc + 1 = q) (k : Ev xl xs F L B1 B2 M q lv (.int (-x) :: st) n h Q) : Ev xl xs F L B1 B2 M pc lv (.int x :: st) n h Q := by
  subst hq
  exact ev_pure (fun n o => okl_i (okl_t o)) (fun p l e R s m args below meth c H locs cells slots Z ls ad hx hb ho ht kk => lv_ineg hx hb d kk) k
theorem ev_lneg {q : Nat} {x : Int64} (d : decode M.2.1 pc = .ok (.lneg, 1)) (hq : pc + 1 = q) (k : Ev xl xs F L B1 B2 M q lv (.long (-x) :: st) n h Q) : Ev xl xs F L B1 B2 M pc lv (.long x :: st) n h Q := by
  subst hq
  exact ev_pure (fun n o => okl_l (okl_t o)) (fun p l e R s m args below meth c H locs cells slots Z ls ad hx hb ho ht kk => lv_lneg hx hb d kk) k
theorem ev_ladd {q : Nat} {x y : Int64} (d : decode M.2.1 pc = .ok (.ladd, 1)) (hq : pc + 1 = q) (k : Ev xl xs F L B1 B2 M q lv (.long (x + y) :: st) n h Q) : Ev xl xs F L B1 B2 M pc lv (.long y :: .long x :: st) n h Q := by
  subst hq
  exact ev_pure (fun n o => okl_l (okl_t (okl_t o))) (fun p l e R s m args below meth c H locs cells slots Z ls ad hx hb ho ht kk => lv_ladd hx hb d kk) k
theorem ev_lsub {q : Nat} {x y : Int64} (d : decode M.2.1 pc = .ok (.lsub, 1)) (hq : pc + 1 = q) (k : Ev xl xs F L B1 B2 M q lv (.long (x - y) :: st) n h Q) : Ev xl xs F L B1 B2 M pc lv (.long y :: .long x :: st) n h Q := by
  subst hq
  exact ev_pure (fun n o => okl_l (okl_t (okl_t o))) (fun p l e R s m args below meth c H locs cells slots Z ls ad hx hb ho ht kk => lv_lsub hx hb d kk) k
theorem ev_land {q : Nat} {x y : Int64} (d : decode M.2.1 pc = .ok (.land, 1)) (hq : pc + 1 = q) (k : Ev xl xs F L B1 B2 M q lv (.long (x &&& y) :: st) n h Q) : Ev xl xs F L B1 B2 M pc lv (.long y :: .long x :: st) n h Q := by
  subst hq
  exact ev_pure (fun n o => okl_l (okl_t (okl_t o))) (fun p l e R s m args below meth c H locs cells slots Z ls ad hx hb ho ht kk => lv_land hx hb d kk) k
theorem ev_lor {q : Nat} {x y : Int64} (d : decode M.2.1 pc = .ok (.lor, 1)) (hq : pc + 1 = q) (k : Ev xl xs F L B1 B2 M q lv (.long (x ||| y) :: st) n h Q) : Ev xl xs F L B1 B2 M pc lv (.long y :: .long x :: st) n h Q := by
  subst hq
  exact ev_pure (fun n o => okl_l (okl_t (okl_t o))) (fun p l e R s m args below meth c H locs cells slots Z ls ad hx hb ho ht kk => lv_lor hx hb d kk) k
theorem ev_lxor {q : Nat} {x y : Int64} (d : decode M.2.1 pc = .ok (.lxor, 1)) (hq : pc + 1 = q) (k : Ev xl xs F L B1 B2 M q lv (.long (x ^^^ y) :: st) n h Q) : Ev xl xs F L B1 B2 M pc lv (.long y :: .long x :: st) n h Q := by
  subst hq
  exact ev_pure (fun n o => okl_l (okl_t (okl_t o))) (fun p l e R s m args below meth c H locs cells slots Z ls ad hx hb ho ht kk => lv_lxor hx hb d kk) k
theorem ev_ldiv {q : Nat} {x y : Int64} (hne : ¬ y = 0) (d : decode M.2.1 pc = .ok (.ldiv, 1)) (hq : pc + 1 = q) (k : Ev xl xs F L B1 B2 M q lv (.long (x / y) :: st) n h Q) : Ev xl xs F L B1 B2 M pc lv (.long y :: .long x :: st) n h Q := by
  subst hq
  exact ev_pure (fun n o => okl_l (okl_t (okl_t o))) (fun p l e R s m args below meth c H locs cells slots Z ls ad hx hb ho ht kk => lv_ldiv hx hb d hne kk) k
theorem ev_lrem {q : Nat} {x y : Int64} (hne : ¬ y = 0) (d : decode M.2.1 pc = .ok (.lrem, 1)) (hq : pc + 1 = q) (k : Ev xl xs F L B1 B2 M q lv (.long (x - x / y * y) :: st) n h Q) : Ev xl xs F L B1 B2 M pc lv (.long y :: .long x :: st) n h Q := by
  subst hq
  exact ev_pure (fun n o => okl_l (okl_t (okl_t o))) (fun p l e R s m args below meth c H locs cells slots Z ls ad hx hb ho ht kk => lv_lrem hx hb d hne kk) k
theorem ev_lshl {q : Nat} {x : Int64} {y : Int32} (d : decode M.2.1 pc = .ok (.lshl, 1)) (hq : pc + 1 = q) (k : Ev xl xs F L B1 B2 M q lv (.long (x <<< (y.toInt64 &&& 63)) :: st) n h Q) : Ev xl xs F L B1 B2 M pc lv (.int y :: .long x :: st) n h Q := by
  subst hq
  exact ev_pure (fun n o => okl_l (okl_t (okl_t o))) (fun p l e R s m args below meth c H locs cells slots Z ls ad hx hb ho ht kk => lv_lshl hx hb d rfl kk) k
theorem ev_lushr {q : Nat} {x : Int64} {y : Int32} (d : decode M.2.1 pc = .ok (.lushr, 1)) (hq : pc + 1 = q) (k : Ev xl xs F L B1 B2 M q lv (.long ((x.toUInt64 >>> (y.toInt64.toUInt64 &&& Int64.toUInt64 63)).toInt64) :: st) n h Q) : Ev xl xs F L B1 B2 M pc lv (.int y :: .long x :: st) n h Q := by
  subst hq
  exact ev_pure (fun n o => okl_l (okl_t (okl_t o))) (fun p l e R s m args below meth c H locs cells slots Z ls ad hx hb ho ht kk => lv_lushr hx hb d rfl kk) k
theorem ev_lcmp {q : Nat} {x y : Int64} (d : decode M.2.1 pc = .ok (.lcmp, 1)) (hq : pc + 1 = q) (k : Ev xl xs F L B1 B2 M q lv (.int (lg_cmp x y) :: st) n h Q) : Ev xl xs F L B1 B2 M pc lv (.long y :: .long x :: st) n h Q := by
  subst hq
  exact ev_pure (fun n o => okl_i (okl_t (okl_t o))) (fun p l e R s m args below meth c H locs cells slots Z ls ad hx hb ho ht kk => W.lcmp hx hb d kk) k
theorem ev_i2l {q : Nat} {x : Int32} (d : decode M.2.1 pc = .ok (.i2l, 1)) (hq : pc + 1 = q) (k : Ev xl xs F L B1 B2 M q lv (.long x.toInt64 :: st) n h Q) : Ev xl xs F L B1 B2 M pc lv (.int x :: st) n h Q := by
  subst hq
  exact ev_pure (fun n o => okl_l (okl_t o)) (fun p l e R s m args below meth c H locs cells slots Z ls ad hx hb ho ht kk => lv_i2l hx hb d rfl kk) k
theorem ev_l2i {q : Nat} {x : Int64} (d : decode M.2.1 pc = .ok (.l2i, 1)) (hq : pc + 1 = q) (k : Ev xl xs F L B1 B2 M q lv (.int x.toInt32 :: st) n h Q) : Ev xl xs F L B1 B2 M pc lv (.long x :: st) n h Q := by
  subst hq
  exact ev_pure (fun n o => okl_i (okl_t o)) (fun p l e R s m args below meth c H locs cells slots Z ls ad hx hb ho ht kk => lv_l2i hx hb d rfl kk) k
theorem ev_iconst {q : Nat} {i : Int} (v : Int32) (d : decode M.2.1 pc = .ok (.iconst i, 1)) (hv : Int32.ofInt i = v) (hq : pc + 1 = q) (k : Ev xl xs F L B1 B2 M q lv (.int v :: st) n h Q) : Ev xl xs F L B1 B2 M pc lv st n h Q := by
  subst hq
  exact ev_pure (fun n o => okl_i o) (fun p l e R s m args below meth c H locs cells slots Z ls ad hx hb ho ht kk => lv_iconst hx hb d hv kk) k
theorem ev_bipush {q : Nat} {i : Int} (v : Int32) (d : decode M.2.1 pc = .ok (.bipush i, 2)) (hv : (Int8.ofInt i).toInt32 = v) (hq : pc + 2 = q) (k : Ev xl xs F L B1 B2 M q lv (.int v :: st) n h Q) : Ev xl xs F L B1 B2 M pc lv st n h Q := by
  subst hq
  exact ev_pure (fun n o => okl_i o) (fun p l e R s m args below meth c H locs cells slots Z ls ad hx hb ho ht kk => lv_bipush hx hb d hv kk) k
theorem ev_sipush {q : Nat} {i : Int} (v : Int32) (d : decode M.2.1 pc = .ok (.sipush i, 3)) (hv : (Int16.ofInt i).toInt32 = v) (hq : pc + 3 = q) (k : Ev xl xs F L B1 B2 M q lv (.int v :: st) n h Q) : Ev xl xs F L B1 B2 M pc lv st n h Q := by
  subst hq
  exact ev_pure (fun n o => okl_i o) (fun p l e R s m args below meth c H locs cells slots Z ls ad hx hb ho ht kk => lv_sipush hx hb d hv kk) k
theorem ev_lconst {q : Nat} {i : Fin 2} (v : Int64) (d : decode M.2.1 pc = .ok (.lconst i, 1)) (hv : Int64.ofNat (i : Nat) = v) (hq : pc + 1 = q) (k : Ev xl xs F L B1 B2 M q lv (.long v :: st) n h Q) : Ev xl xs F L B1 B2 M pc lv st n h Q := by
  subst hq
  exact ev_pure (fun n o => okl_l o) (fun p l e R s m args below meth c H locs cells slots Z ls ad hx hb ho ht kk => lv_lconst hx hb d hv kk) k
theorem ev_ldc {q : Nat} {i : Nat} {v : Int32} (hw : Cond.constant M.1.cls i v ∈ TB) (d : decode M.2.1 pc = .ok (.ldc i, 2)) (hq : pc + 2 = q) (k : Ev xl xs F L B1 B2 M q lv (.int v :: st) n h Q) : Ev xl xs F L B1 B2 M pc lv st n h Q := by
  subst hq
  exact ev_pure (fun n o => okl_i o) (fun p l e R s m args below meth c H locs cells slots Z ls ad hx hb ho ht kk => lv_ldc hx hb ho (ht _ hw) d kk) k
theorem ev_ldc2 {q : Nat} {i : Nat} {v : Int64} (hw : Cond.constantLong M.1.cls i v ∈ TB) (d : decode M.2.1 pc = .ok (.ldc2_w i, 3)) (hq : pc + 3 = q) (k : Ev xl xs F L B1 B2 M q lv (.long v :: st) n h Q) : Ev xl xs F L B1 B2 M pc lv st n h Q := by
  subst hq
  exact ev_pure (fun n o => okl_l o) (fun p l e R s m args below meth c H locs cells slots Z ls ad hx hb ho ht kk => lv_ldc2 hx hb ho (ht _ hw) d kk) k
theorem ev_pop {q : Nat} {v : Value} (hv : ∀ ad, (mv ad v).category = 1) (d : decode M.2.1 pc = .ok (.pop, 1)) (hq : pc + 1 = q) (k : Ev xl xs F L B1 B2 M q lv st n h Q) : Ev xl xs F L B1 B2 M pc lv (v :: st) n h Q := by
  subst hq
  exact ev_pure (fun n o => okl_t o) (fun p l e R s m args below meth c H locs cells slots Z ls ad hx hb ho ht kk => lv_pop hx hb d (hv ad) kk) k
theorem ev_dup {q : Nat} {v : Value} (hv : ∀ ad, (mv ad v).category = 1) (d : decode M.2.1 pc = .ok (.dup, 1)) (hq : pc + 1 = q) (k : Ev xl xs F L B1 B2 M q lv (v :: v :: st) n h Q) : Ev xl xs F L B1 B2 M pc lv (v :: st) n h Q := by
  subst hq
  exact ev_pure (fun n o => okl_c (okl_h o) o) (fun p l e R s m args below meth c H locs cells slots Z ls ad hx hb ho ht kk => lv_dup hx hb d (hv ad) kk) k
theorem ev_dup2 {q : Nat} {v w : Value} (hv : ∀ ad, (mv ad v).category = 1) (hw : ∀ ad, (mv ad w).category = 1) (d : decode M.2.1 pc = .ok (.dup2, 1)) (hq : pc + 1 = q) (k : Ev xl xs F L B1 B2 M q lv (v :: w :: v :: w :: st) n h Q) : Ev xl xs F L B1 B2 M pc lv (v :: w :: st) n h Q := by
  subst hq
  exact ev_pure (fun n o => okl_c (okl_h o) (okl_c (okl_h (okl_t o)) o)) (fun p l e R s m args below meth c H locs cells slots Z ls ad hx hb ho ht kk => lv_dup2_11 hx hb d (hv ad) (hw ad) kk) k
theorem ev_goto {off : Int} (t : Nat) (d : decode M.2.1 pc = .ok (.goto off, 3)) (ht : (pc : Int) + off = (t : Int)) (k : Ev xl xs F L B1 B2 M t lv st n h Q) : Ev xl xs F L B1 B2 M pc lv st n h Q := ev_pure (fun n o => o) (fun p l e R s m args below meth c H locs cells slots Z ls ad hx hb ho hts kk => lv_goto hx hb d ht kk) k
theorem ev_if_eq {x : Int32} {off : Int} {q : Nat} (t : Nat) (d : decode M.2.1 pc = .ok (.ifCond .eq off, 3)) (ht : (pc : Int) + off = (t : Int)) (hq : pc + 3 = q) (kt : (x = 0) → Ev xl xs F L B1 B2 M t lv st n h Q) (kf : ¬ (x = 0) → Ev xl xs F L B1 B2 M q lv st n h Q) : Ev xl xs F L B1 B2 M pc lv (.int x :: st) n h Q := by
  subst hq
  intro p l e R s m args below meth cc Z D cA sz zd n0 ad0 CM SM C ad H locs cells slots ls hH hE hS hc hs hl o1 o2
  exact lv_if_eq C.1 C.2.1 d ht (fun hc0 => kt hc0 _ _ _ _ _ _ _ _ _ _ _ _ _ _ _ _ _ _ _ C ad H locs cells slots ls hH hE hS hc hs hl o1 (okl_t o2)) (fun hc0 => kf hc0 _ _ _ _ _ _ _ _ _ _ _ _ _ _ _ _ _ _ _ C ad H locs cells slots ls hH hE hS hc hs hl o1 (okl_t o2))
theorem ev_if_ne {x : Int32} {off : Int} {q : Nat} (t : Nat) (d : decode M.2.1 pc = .ok (.ifCond .ne off, 3)) (ht : (pc : Int) + off = (t : Int)) (hq : pc + 3 = q) (kt : (x ≠ 0) → Ev xl xs F L B1 B2 M t lv st n h Q) (kf : (x = 0) → Ev xl xs F L B1 B2 M q lv st n h Q) : Ev xl xs F L B1 B2 M pc lv (.int x :: st) n h Q := by
  subst hq
  intro p l e R s m args below meth cc Z D cA sz zd n0 ad0 CM SM C ad H locs cells slots ls hH hE hS hc hs hl o1 o2
  exact lv_if_ne C.1 C.2.1 d ht (fun hc0 => kt hc0 _ _ _ _ _ _ _ _ _ _ _ _ _ _ _ _ _ _ _ C ad H locs cells slots ls hH hE hS hc hs hl o1 (okl_t o2)) (fun hc0 => kf hc0 _ _ _ _ _ _ _ _ _ _ _ _ _ _ _ _ _ _ _ C ad H locs cells slots ls hH hE hS hc hs hl o1 (okl_t o2))
theorem ev_if_lt {x : Int32} {off : Int} {q : Nat} (t : Nat) (d : decode M.2.1 pc = .ok (.ifCond .lt off, 3)) (ht : (pc : Int) + off = (t : Int)) (hq : pc + 3 = q) (kt : (x < 0) → Ev xl xs F L B1 B2 M t lv st n h Q) (kf : ¬ (x < 0) → Ev xl xs F L B1 B2 M q lv st n h Q) : Ev xl xs F L B1 B2 M pc lv (.int x :: st) n h Q := by
  subst hq
  intro p l e R s m args below meth cc Z D cA sz zd n0 ad0 CM SM C ad H locs cells slots ls hH hE hS hc hs hl o1 o2
  exact lv_if_lt C.1 C.2.1 d ht (fun hc0 => kt hc0 _ _ _ _ _ _ _ _ _ _ _ _ _ _ _ _ _ _ _ C ad H locs cells slots ls hH hE hS hc hs hl o1 (okl_t o2)) (fun hc0 => kf hc0 _ _ _ _ _ _ _ _ _ _ _ _ _ _ _ _ _ _ _ C ad H locs cells slots ls hH hE hS hc hs hl o1 (okl_t o2))
theorem ev_if_ge {x : Int32} {off : Int} {q : Nat} (t : Nat) (d : decode M.2.1 pc = .ok (.ifCond .ge off, 3)) (ht : (pc : Int) + off = (t : Int)) (hq : pc + 3 = q) (kt : (0 ≤ x) → Ev xl xs F L B1 B2 M t lv st n h Q) (kf : ¬ (0 ≤ x) → Ev xl xs F L B1 B2 M q lv st n h Q) : Ev xl xs F L B1 B2 M pc lv (.int x :: st) n h Q := by
  subst hq
  intro p l e R s m args below meth cc Z D cA sz zd n0 ad0 CM SM C ad H locs cells slots ls hH hE hS hc hs hl o1 o2
  exact lv_if_ge C.1 C.2.1 d ht (fun hc0 => kt hc0 _ _ _ _ _ _ _ _ _ _ _ _ _ _ _ _ _ _ _ C ad H locs cells slots ls hH hE hS hc hs hl o1 (okl_t o2)) (fun hc0 => kf hc0 _ _ _ _ _ _ _ _ _ _ _ _ _ _ _ _ _ _ _ C ad H locs cells slots ls hH hE hS hc hs hl o1 (okl_t o2))
theorem ev_if_gt {x : Int32} {off : Int} {q : Nat} (t : Nat) (d : decode M.2.1 pc = .ok (.ifCond .gt off, 3)) (ht : (pc : Int) + off = (t : Int)) (hq : pc + 3 = q) (kt : (0 < x) → Ev xl xs F L B1 B2 M t lv st n h Q) (kf : ¬ (0 < x) → Ev xl xs F L B1 B2 M q lv st n h Q) : Ev xl xs F L B1 B2 M pc lv (.int x :: st) n h Q := by
  subst hq
  intro p l e R s m args below meth cc Z D cA sz zd n0 ad0 CM SM C ad H locs cells slots ls hH hE hS hc hs hl o1 o2
  exact lv_if_gt C.1 C.2.1 d ht (fun hc0 => kt hc0 _ _ _ _ _ _ _ _ _ _ _ _ _ _ _ _ _ _ _ C ad H locs cells slots ls hH hE hS hc hs hl o1 (okl_t o2)) (fun hc0 => kf hc0 _ _ _ _ _ _ _ _ _ _ _ _ _ _ _ _ _ _ _ C ad H locs cells slots ls hH hE hS hc hs hl o1 (okl_t o2))
theorem ev_if_le {x : Int32} {off : Int} {q : Nat} (t : Nat) (d : decode M.2.1 pc = .ok (.ifCond .le off, 3)) (ht : (pc : Int) + off = (t : Int)) (hq : pc + 3 = q) (kt : (x ≤ 0) → Ev xl xs F L B1 B2 M t lv st n h Q) (kf : ¬ (x ≤ 0) → Ev xl xs F L B1 B2 M q lv st n h Q) : Ev xl xs F L B1 B2 M pc lv (.int x :: st) n h Q := by
  subst hq
  intro p l e R s m args below meth cc Z D cA sz zd n0 ad0 CM SM C ad H locs cells slots ls hH hE hS hc hs hl o1 o2
  exact lv_if_le C.1 C.2.1 d ht (fun hc0 => kt hc0 _ _ _ _ _ _ _ _ _ _ _ _ _ _ _ _ _ _ _ C ad H locs cells slots ls hH hE hS hc hs hl o1 (okl_t o2)) (fun hc0 => kf hc0 _ _ _ _ _ _ _ _ _ _ _ _ _ _ _ _ _ _ _ C ad H locs cells slots ls hH hE hS hc hs hl o1 (okl_t o2))
theorem ev_icmp_eq {x y : Int32} {off : Int} {q : Nat} (t : Nat) (d : decode M.2.1 pc = .ok (.if_icmp .eq off, 3)) (ht : (pc : Int) + off = (t : Int)) (hq : pc + 3 = q) (kt : (x = y) → Ev xl xs F L B1 B2 M t lv st n h Q) (kf : ¬ (x = y) → Ev xl xs F L B1 B2 M q lv st n h Q) : Ev xl xs F L B1 B2 M pc lv (.int y :: .int x :: st) n h Q := by
  subst hq
  intro p l e R s m args below meth cc Z D cA sz zd n0 ad0 CM SM C ad H locs cells slots ls hH hE hS hc hs hl o1 o2
  exact lv_icmp_eq C.1 C.2.1 d ht (fun hc0 => kt hc0 _ _ _ _ _ _ _ _ _ _ _ _ _ _ _ _ _ _ _ C ad H locs cells slots ls hH hE hS hc hs hl o1 (okl_t (okl_t o2))) (fun hc0 => kf hc0 _ _ _ _ _ _ _ _ _ _ _ _ _ _ _ _ _ _ _ C ad H locs cells slots ls hH hE hS hc hs hl o1 (okl_t (okl_t o2)))
theorem ev_icmp_ne {x y : Int32} {off : Int} {q : Nat} (t : Nat) (d : decode M.2.1 pc = .ok (.if_icmp .ne off, 3)) (ht : (pc : Int) + off = (t : Int)) (hq : pc + 3 = q) (kt : (x ≠ y) → Ev xl xs F L B1 B2 M t lv st n h Q) (kf : (x = y) → Ev xl xs F L B1 B2 M q lv st n h Q) : Ev xl xs F L B1 B2 M pc lv (.int y :: .int x :: st) n h Q := by
  subst hq
  intro p l e R s m args below meth cc Z D cA sz zd n0 ad0 CM SM C ad H locs cells slots ls hH hE hS hc hs hl o1 o2
  exact lv_icmp_ne C.1 C.2.1 d ht (fun hc0 => kt hc0 _ _ _ _ _ _ _ _ _ _ _ _ _ _ _ _ _ _ _ C ad H locs cells slots ls hH hE hS hc hs hl o1 (okl_t (okl_t o2))) (fun hc0 => kf hc0 _ _ _ _ _ _ _ _ _ _ _ _ _ _ _ _ _ _ _ C ad H locs cells slots ls hH hE hS hc hs hl o1 (okl_t (okl_t o2)))
theorem ev_icmp_lt {x y : Int32} {off : Int} {q : Nat} (t : Nat) (d : decode M.2.1 pc = .ok (.if_icmp .lt off, 3)) (ht : (pc : Int) + off = (t : Int)) (hq : pc + 3 = q) (kt : (x < y) → Ev xl xs F L B1 B2 M t lv st n h Q) (kf : ¬ (x < y) → Ev xl xs F L B1 B2 M q lv st n h Q) : Ev xl xs F L B1 B2 M pc lv (.int y :: .int x :: st) n h Q := by
  subst hq
  intro p l e R s m args below meth cc Z D cA sz zd n0 ad0 CM SM C ad H locs cells slots ls hH hE hS hc hs hl o1 o2
  exact lv_icmp_lt C.1 C.2.1 d ht (fun hc0 => kt hc0 _ _ _ _ _ _ _ _ _ _ _ _ _ _ _ _ _ _ _ C ad H locs cells slots ls hH hE hS hc hs hl o1 (okl_t (okl_t o2))) (fun hc0 => kf hc0 _ _ _ _ _ _ _ _ _ _ _ _ _ _ _ _ _ _ _ C ad H locs cells slots ls hH hE hS hc hs hl o1 (okl_t (okl_t o2)))
theorem ev_icmp_ge {x y : Int32} {off : Int} {q : Nat} (t : Nat) (d : decode M.2.1 pc = .ok (.if_icmp .ge off, 3)) (ht : (pc : Int) + off = (t : Int)) (hq : pc + 3 = q) (kt : (y ≤ x) → Ev xl xs F L B1 B2 M t lv st n h Q) (kf : ¬ (y ≤ x) → Ev xl xs F L B1 B2 M q lv st n h Q) : Ev xl xs F L B1 B2 M pc lv (.int y :: .int x :: st) n h Q := by
  subst hq
  intro p l e R s m args below meth cc Z D cA sz zd n0 ad0 CM SM C ad H locs cells slots ls hH hE hS hc hs hl o1 o2
  exact lv_icmp_ge C.1 C.2.1 d ht (fun hc0 => kt hc0 _ _ _ _ _ _ _ _ _ _ _ _ _ _ _ _ _ _ _ C ad H locs cells slots ls hH hE hS hc hs hl o1 (okl_t (okl_t o2))) (fun hc0 => kf hc0 _ _ _ _ _ _ _ _ _ _ _ _ _ _ _ _ _ _ _ C ad H locs cells slots ls hH hE hS hc hs hl o1 (okl_t (okl_t o2)))
theorem ev_icmp_gt {x y : Int32} {off : Int} {q : Nat} (t : Nat) (d : decode M.2.1 pc = .ok (.if_icmp .gt off, 3)) (ht : (pc : Int) + off = (t : Int)) (hq : pc + 3 = q) (kt : (y < x) → Ev xl xs F L B1 B2 M t lv st n h Q) (kf : ¬ (y < x) → Ev xl xs F L B1 B2 M q lv st n h Q) : Ev xl xs F L B1 B2 M pc lv (.int y :: .int x :: st) n h Q := by
  subst hq
  intro p l e R s m args below meth cc Z D cA sz zd n0 ad0 CM SM C ad H locs cells slots ls hH hE hS hc hs hl o1 o2
  exact lv_icmp_gt C.1 C.2.1 d ht (fun hc0 => kt hc0 _ _ _ _ _ _ _ _ _ _ _ _ _ _ _ _ _ _ _ C ad H locs cells slots ls hH hE hS hc hs hl o1 (okl_t (okl_t o2))) (fun hc0 => kf hc0 _ _ _ _ _ _ _ _ _ _ _ _ _ _ _ _ _ _ _ C ad H locs cells slots ls hH hE hS hc hs hl o1 (okl_t (okl_t o2)))
theorem ev_icmp_le {x y : Int32} {off : Int} {q : Nat} (t : Nat) (d : decode M.2.1 pc = .ok (.if_icmp .le off, 3)) (ht : (pc : Int) + off = (t : Int)) (hq : pc + 3 = q) (kt : (x ≤ y) → Ev xl xs F L B1 B2 M t lv st n h Q) (kf : ¬ (x ≤ y) → Ev xl xs F L B1 B2 M q lv st n h Q) : Ev xl xs F L B1 B2 M pc lv (.int y :: .int x :: st) n h Q := by
  subst hq
  intro p l e R s m args below meth cc Z D cA sz zd n0 ad0 CM SM C ad H locs cells slots ls hH hE hS hc hs hl o1 o2
  exact lv_icmp_le C.1 C.2.1 d ht (fun hc0 => kt hc0 _ _ _ _ _ _ _ _ _ _ _ _ _ _ _ _ _ _ _ C ad H locs cells slots ls hH hE hS hc hs hl o1 (okl_t (okl_t o2))) (fun hc0 => kf hc0 _ _ _ _ _ _ _ _ _ _ _ _ _ _ _ _ _ _ _ C ad H locs cells slots ls hH hE hS hc hs hl o1 (okl_t (okl_t o2)))
theorem ev_nonnull {off : Int} {x : Nat} (t : Nat) (d : decode M.2.1 pc = .ok (.ifnonnull off, 3)) (ht : (pc : Int) + off = (t : Int)) (k : Ev xl xs F L B1 B2 M t lv st n h Q) : Ev xl xs F L B1 B2 M pc lv (.ref x :: st) n h Q := ev_pure (fun n o => okl_t o) (fun p l e R s m args below meth c H locs cells slots Z ls ad hx hb ho hts kk => lv_ifnonnull hx hb d ht kk) k
theorem ev_nonnullN {off : Int} {q : Nat} (d : decode M.2.1 pc = .ok (.ifnonnull off, 3)) (hq : pc + 3 = q) (k : Ev xl xs F L B1 B2 M q lv st n h Q) : Ev xl xs F L B1 B2 M pc lv (.null :: st) n h Q := by
  subst hq
  exact ev_pure (fun n o => okl_t o) (fun p l e R s m args below meth c H locs cells slots Z ls ad hx hb ho ht kk => lv_ifnonnullN hx hb d kk) k
theorem ev_tabIn {dflt lo hi off : Int} {offs : Array Int} {ln : Nat} {x : Int32} (t : Nat) (d : decode M.2.1 pc = .ok (.tableswitch dflt lo hi offs, ln)) (h1 : ¬ x.toInt < lo) (h2 : ¬ hi < x.toInt) (ho : offs[(x.toInt - lo).toNat]? = some off) (ht : (pc : Int) + off = (t : Int)) (k : Ev xl xs F L B1 B2 M t lv st n h Q) : Ev xl xs F L B1 B2 M pc lv (.int x :: st) n h Q := ev_pure (fun n o => okl_t o) (fun p l e R s m args below meth c H locs cells slots Z ls ad hx hb hoo hts kk => lv_tableIn hx hb d h1 h2 ho ht kk) k
theorem ev_tabOut {dflt lo hi : Int} {offs : Array Int} {ln : Nat} {x : Int32} (t : Nat) (d : decode M.2.1 pc = .ok (.tableswitch dflt lo hi offs, ln)) (h1 : x.toInt < lo ∨ hi < x.toInt) (ht : (pc : Int) + dflt = (t : Int)) (k : Ev xl xs F L B1 B2 M t lv st n h Q) : Ev xl xs F L B1 B2 M pc lv (.int x :: st) n h Q := ev_pure (fun n o => okl_t o) (fun p l e R s m args below meth c H locs cells slots Z ls ad hx hb hoo hts kk => lv_tableOut hx hb d h1 ht kk) k
theorem ev_look {dflt off : Int} {ps : Array (Int × Int)} {ln : Nat} {x : Int32} (t : Nat) (d : decode M.2.1 pc = .ok (.lookupswitch dflt ps, ln)) (hp : (ps.toList.zip (ps.toList.drop 1)).all (fun (a, next) => a.1 < next.1) = true) (ho : Op.lookupswitch.offset ps.toList dflt x.toInt = off) (ht : (pc : Int) + off = (t : Int)) (k : Ev xl xs F L B1 B2 M t lv st n h Q) : Ev xl xs F L B1 B2 M pc lv (.int x :: st) n h Q := ev_pure (fun n o => okl_t o) (fun p l e R s m args below meth c H locs cells slots Z ls ad hx hb hoo hts kk => lv_lookup hx hb d hp ho ht kk) k
theorem ev_iload_n {i : Fin 4} {q : Nat} {x : Int32} (d : decode M.2.1 pc = .ok (.iload_n i, 1)) (hl : lv[(i : Nat)]? = some (some (.int x))) (hq : pc + 1 = q) (k : Ev xl xs F L B1 B2 M q lv (.int x :: st) n h Q) : Ev xl xs F L B1 B2 M pc lv st n h Q := by
  subst hq
  intro p l e R s m args below meth cc Z D cA sz zd n0 ad0 CM SM C ad H locs cells slots ls hH hE hS hc hs hll o1 o2
  exact lv_iload_n C.1 C.2.1 d rfl (hll.2.2 _ _ hl) (k _ _ _ _ _ _ _ _ _ _ _ _ _ _ _ _ _ _ _ C ad H locs cells slots ls hH hE hS hc hs hll o1 (okl_c (o1 _ (List.mem_of_getElem? hl)) o2))
theorem ev_iload {i : Nat} {q : Nat} {x : Int32} (d : decode M.2.1 pc = .ok (.iload i, 2)) (hl : lv[i]? = some (some (.int x))) (hq : pc + 2 = q) (k : Ev xl xs F L B1 B2 M q lv (.int x :: st) n h Q) : Ev xl xs F L B1 B2 M pc lv st n h Q := by
  subst hq
  intro p l e R s m args below meth cc Z D cA sz zd n0 ad0 CM SM C ad H locs cells slots ls hH hE hS hc hs hll o1 o2
  exact lv_iload C.1 C.2.1 d (hll.2.2 _ _ hl) (k _ _ _ _ _ _ _ _ _ _ _ _ _ _ _ _ _ _ _ C ad H locs cells slots ls hH hE hS hc hs hll o1 (okl_c (o1 _ (List.mem_of_getElem? hl)) o2))
theorem ev_lload_n {i : Fin 4} {q : Nat} {x : Int64} (d : decode M.2.1 pc = .ok (.lload_n i, 1)) (hl : lv[(i : Nat)]? = some (some (.long x))) (hq : pc + 1 = q) (k : Ev xl xs F L B1 B2 M q lv (.long x :: st) n h Q) : Ev xl xs F L B1 B2 M pc lv st n h Q := by
  subst hq
  intro p l e R s m args below meth cc Z D cA sz zd n0 ad0 CM SM C ad H locs cells slots ls hH hE hS hc hs hll o1 o2
  exact lv_lload_n C.1 C.2.1 d rfl (hll.2.2 _ _ hl) (k _ _ _ _ _ _ _ _ _ _ _ _ _ _ _ _ _ _ _ C ad H locs cells slots ls hH hE hS hc hs hll o1 (okl_c (o1 _ (List.mem_of_getElem? hl)) o2))
theorem ev_lload {i : Nat} {q : Nat} {x : Int64} (d : decode M.2.1 pc = .ok (.lload i, 2)) (hl : lv[i]? = some (some (.long x))) (hq : pc + 2 = q) (k : Ev xl xs F L B1 B2 M q lv (.long x :: st) n h Q) : Ev xl xs F L B1 B2 M pc lv st n h Q := by
  subst hq
  intro p l e R s m args below meth cc Z D cA sz zd n0 ad0 CM SM C ad H locs cells slots ls hH hE hS hc hs hll o1 o2
  exact lv_lload C.1 C.2.1 d (hll.2.2 _ _ hl) (k _ _ _ _ _ _ _ _ _ _ _ _ _ _ _ _ _ _ _ C ad H locs cells slots ls hH hE hS hc hs hll o1 (okl_c (o1 _ (List.mem_of_getElem? hl)) o2))
theorem ev_aload_n {i : Fin 4} {q : Nat} {x : Nat} (d : decode M.2.1 pc = .ok (.aload_n i, 1)) (hl : lv[(i : Nat)]? = some (some (.ref x))) (hq : pc + 1 = q) (k : Ev xl xs F L B1 B2 M q lv (.ref x :: st) n h Q) : Ev xl xs F L B1 B2 M pc lv st n h Q := by
  subst hq
  intro p l e R s m args below meth cc Z D cA sz zd n0 ad0 CM SM C ad H locs cells slots ls hH hE hS hc hs hll o1 o2
  exact lv_aload_n C.1 C.2.1 d rfl (hll.2.2 _ _ hl) (k _ _ _ _ _ _ _ _ _ _ _ _ _ _ _ _ _ _ _ C ad H locs cells slots ls hH hE hS hc hs hll o1 (okl_c (o1 _ (List.mem_of_getElem? hl)) o2))
theorem ev_aload {i : Nat} {q : Nat} {x : Nat} (d : decode M.2.1 pc = .ok (.aload i, 2)) (hl : lv[i]? = some (some (.ref x))) (hq : pc + 2 = q) (k : Ev xl xs F L B1 B2 M q lv (.ref x :: st) n h Q) : Ev xl xs F L B1 B2 M pc lv st n h Q := by
  subst hq
  intro p l e R s m args below meth cc Z D cA sz zd n0 ad0 CM SM C ad H locs cells slots ls hH hE hS hc hs hll o1 o2
  exact lv_aload C.1 C.2.1 d (hll.2.2 _ _ hl) (k _ _ _ _ _ _ _ _ _ _ _ _ _ _ _ _ _ _ _ C ad H locs cells slots ls hH hE hS hc hs hll o1 (okl_c (o1 _ (List.mem_of_getElem? hl)) o2))
end ROWS
