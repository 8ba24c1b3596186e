/-! THE SYSTEM: its cells at fixed places, one function of typed stores I (ints), J (longs), X (the images' row) -/
def sysL (I : Nat → Nat → Int32) (J : Nat → Nat → Int64) (X : Nat → Option Nat) : List PC := [.inr (6, [.ref 1, .ref 9, .ref 10, .ref 13, .ref 16, .ref 21, .ref 24, .ref 30, .ref 31, .ref 32]),
  .inr (4, [.int (I 1 0), .int (I 1 1), .int (I 1 2), .int (I 1 3), .int (I 1 4), .long (J 1 5), .ref 2, .ref 3, .ref 4, .ref 5, .int (I 1 10), .ref 6, .int (I 1 12), .ref 7, .ref 8, .int (I 1 15)]),
  .inl (0, 24, .inl (I 2)),
  .inl (0, 6, .inl (I 3)),
  .inl (0, 4, .inl (I 4)),
  .inl (0, 16, .inl (I 5)),
  .inl (1, 12, .inr (.inl (J 6))),
  .inl (0, 6, .inl (I 7)),
  .inl (0, 6, .inl (I 8)),
  .inl (3, 2, .inr (.inr (.inr (.inr X)))),
  .inr (1, [.ref 11, .int (I 10 1), .ref 12]),
  .inl (0, 40, .inl (I 11)),
  .inl (1, 24, .inr (.inl (J 12))),
  .inr (1, [.ref 14, .int (I 13 1), .ref 15]),
  .inl (0, 40, .inl (I 14)),
  .inl (1, 24, .inr (.inl (J 15))),
  .inr (5, [.int (I 16 0), .ref 17, .ref 18, .ref 19, .ref 20]),
  .inl (0, 729, .inl (I 17)),
  .inl (0, 729, .inl (I 18)),
  .inl (1, 729, .inr (.inl (J 19))),
  .inl (0, 64, .inl (I 20)),
  .inr (3, [.ref 1, .ref 16, .ref 22, .ref 23]),
  .inl (0, 64, .inl (I 22)),
  .inl (0, 64, .inl (I 23)),
  .inr (2, [.ref 1, .ref 16, .ref 25, .ref 26, .ref 27, .ref 28, .ref 29, .int (I 24 7)]),
  .inl (0, 64, .inl (I 25)),
  .inl (0, 64, .inl (I 26)),
  .inl (0, 64, .inl (I 27)),
  .inl (0, 64, .inl (I 28)),
  .inl (0, 64, .inl (I 29)),
  .inr (0, [.int (I 30 0), .int (I 30 1), .int (I 30 2)]),
  .inl (0, 64, .inl (I 31)),
  .inl (0, 64, .inl (I 32)),
  .inr (7, [.int (I 33 0), .ref 34, .ref 35, .ref 36, .int (I 33 4), .int (I 33 5), .int (I 33 6), .int (I 33 7), .long (J 33 8), .int (I 33 9), .ref 37, .int (I 33 11), .ref 38, .ref 39, .int (I 33 14), .ref 40, .int (I 33 16), .ref 41, .int (I 33 18), .ref 42, .ref 43, .int (I 33 21), .int (I 33 22), .ref 44, .ref 45, .int (I 33 25), .ref 46, .ref 47, .ref 48]),
  .inl (0, 24, .inl (I 34)),
  .inl (0, 6, .inl (I 35)),
  .inl (0, 4, .inl (I 36)),
  .inl (0, 16, .inl (I 37)),
  .inl (1, 6, .inr (.inl (J 38))),
  .inl (0, 6, .inl (I 39)),
  .inl (0, 12, .inl (I 40)),
  .inl (0, 40, .inl (I 41)),
  .inl (0, 40, .inl (I 42)),
  .inl (2, 40, .inl (I 43)),
  .inl (0, 64, .inl (I 44)),
  .inl (0, 64, .inl (I 45)),
  .inl (0, 200, .inl (I 46)),
  .inl (1, 14, .inr (.inl (J 47))),
  .inl (2, 2, .inl (I 48)),
  .inr (4, [.int (I 49 0), .int (I 49 1), .int (I 49 2), .int (I 49 3), .int (I 49 4), .long (J 49 5), .ref 50, .ref 51, .ref 52, .ref 53, .int (I 49 10), .ref 54, .int (I 49 12), .ref 55, .ref 56, .int (I 49 15)]),
  .inl (0, 24, .inl (I 50)),
  .inl (0, 6, .inl (I 51)),
  .inl (0, 4, .inl (I 52)),
  .inl (0, 16, .inl (I 53)),
  .inl (1, 12, .inr (.inl (J 54))),
  .inl (0, 6, .inl (I 55)),
  .inl (0, 6, .inl (I 56)),
  .inr (4, [.int (I 57 0), .int (I 57 1), .int (I 57 2), .int (I 57 3), .int (I 57 4), .long (J 57 5), .ref 58, .ref 59, .ref 60, .ref 61, .int (I 57 10), .ref 62, .int (I 57 12), .ref 63, .ref 64, .int (I 57 15)]),
  .inl (0, 24, .inl (I 58)),
  .inl (0, 6, .inl (I 59)),
  .inl (0, 4, .inl (I 60)),
  .inl (0, 16, .inl (I 61)),
  .inl (1, 12, .inr (.inl (J 62))),
  .inl (0, 6, .inl (I 63)),
  .inl (0, 6, .inl (I 64))]
def sysH (I : Nat → Nat → Int32) (J : Nat → Nat → Int64) (X : Nat → Option Nat) : Nat → PC := fun p => (sysL I J X).getD p (.inl (0, 0, .inl (fun _ => 0)))
def setI (I : Nat → Nat → Int32) (p : Nat) (f : Nat → Int32) : Nat → Nat → Int32 := fun q => if q = p then f else I q
def setJ (J : Nat → Nat → Int64) (p : Nat) (f : Nat → Int64) : Nat → Nat → Int64 := fun q => if q = p then f else J q
theorem sys_up {I I2 : Nat → Nat → Int32} {J J2 : Nat → Nat → Int64} {X X2 : Nat → Option Nat} {p : Nat} {c : PC} (hp : p < 65) (e : (sysL I J X).set p c = sysL I2 J2 X2) : hup (sysH I J X) p c = sysH I2 J2 X2 := by
  funext q
  unfold sysH
  rw [← e]
  show (if q = p then c else (sysL I J X).getD q (.inl (0, 0, .inl (fun _ => 0)))) = _
  rw [List.getD_eq_getElem?_getD, List.getD_eq_getElem?_getD, List.getElem?_set]
  by_cases hq : q = p
  · subst hq
    simp [show (sysL I J X).length = 65 from rfl, hp]
  · have : p ≠ q := fun h => hq h.symm
    simp [hq, this]
def shI : Nat → Option Nat := fun p => ([none, none, some 24, some 6, some 4, some 16, none, some 6, some 6, none, none, some 40, none, none, some 40, none, none, some 729, some 729, none, some 64, none, some 64, some 64, none, some 64, some 64, some 64, some 64, some 64, none, some 64, some 64, none, some 24, some 6, some 4, some 16, none, some 6, some 12, some 40, some 40, none, some 64, some 64, some 200, none, none, none, some 24, some 6, some 4, some 16, none, some 6, some 6, none, some 24, some 6, some 4, some 16, none, some 6, some 6] : List (Option Nat)).getD p none
def shJ : Nat → Option Nat := fun p => ([none, none, none, none, none, none, some 12, none, none, none, none, none, some 24, none, none, some 24, none, none, none, some 729, none, none, none, none, none, none, none, none, none, none, none, none, none, none, none, none, none, none, some 6, none, none, none, none, none, none, none, none, some 14, none, none, none, none, none, none, some 12, none, none, none, none, none, none, none, some 12, none, none] : List (Option Nat)).getD p none
def shZ : Nat → Option Nat := fun p => ([none, none, none, none, none, none, none, none, none, none, none, none, none, none, none, none, none, none, none, none, none, none, none, none, none, none, none, none, none, none, none, none, none, none, none, none, none, none, none, none, none, none, none, some 40, none, none, none, none, some 2, none, none, none, none, none, none, none, none, none, none, none, none, none, none, none, none] : List (Option Nat)).getD p none
theorem shI_at {I : Nat → Nat → Int32} {J : Nat → Nat → Int64} {X : Nat → Option Nat} : ∀ {p len : Nat}, shI p = some len → sysH I J X p = .inl (0, len, .inl (I p))
  | 0, _, h => by cases h
  | 1, _, h => by cases h
  | 2, _, h => by cases h; rfl
  | 3, _, h => by cases h; rfl
  | 4, _, h => by cases h; rfl
  | 5, _, h => by cases h; rfl
  | 6, _, h => by cases h
  | 7, _, h => by cases h; rfl
  | 8, _, h => by cases h; rfl
  | 9, _, h => by cases h
  | 10, _, h => by cases h
  | 11, _, h => by cases h; rfl
  | 12, _, h => by cases h
  | 13, _, h => by cases h
  | 14, _, h => by cases h; rfl
  | 15, _, h => by cases h
  | 16, _, h => by cases h
  | 17, _, h => by cases h; rfl
  | 18, _, h => by cases h; rfl
  | 19, _, h => by cases h
  | 20, _, h => by cases h; rfl
  | 21, _, h => by cases h
  | 22, _, h => by cases h; rfl
  | 23, _, h => by cases h; rfl
  | 24, _, h => by cases h
  | 25, _, h => by cases h; rfl
  | 26, _, h => by cases h; rfl
  | 27, _, h => by cases h; rfl
  | 28, _, h => by cases h; rfl
  | 29, _, h => by cases h; rfl
  | 30, _, h => by cases h
  | 31, _, h => by cases h; rfl
  | 32, _, h => by cases h; rfl
  | 33, _, h => by cases h
  | 34, _, h => by cases h; rfl
  | 35, _, h => by cases h; rfl
  | 36, _, h => by cases h; rfl
  | 37, _, h => by cases h; rfl
  | 38, _, h => by cases h
  | 39, _, h => by cases h; rfl
  | 40, _, h => by cases h; rfl
  | 41, _, h => by cases h; rfl
  | 42, _, h => by cases h; rfl
  | 43, _, h => by cases h
  | 44, _, h => by cases h; rfl
  | 45, _, h => by cases h; rfl
  | 46, _, h => by cases h; rfl
  | 47, _, h => by cases h
  | 48, _, h => by cases h
  | 49, _, h => by cases h
  | 50, _, h => by cases h; rfl
  | 51, _, h => by cases h; rfl
  | 52, _, h => by cases h; rfl
  | 53, _, h => by cases h; rfl
  | 54, _, h => by cases h
  | 55, _, h => by cases h; rfl
  | 56, _, h => by cases h; rfl
  | 57, _, h => by cases h
  | 58, _, h => by cases h; rfl
  | 59, _, h => by cases h; rfl
  | 60, _, h => by cases h; rfl
  | 61, _, h => by cases h; rfl
  | 62, _, h => by cases h
  | 63, _, h => by cases h; rfl
  | 64, _, h => by cases h; rfl
  | p + 65, _, h => by cases (show none = some _ from h)
set_option maxHeartbeats 4000000 in
theorem shI_up {I : Nat → Nat → Int32} {J : Nat → Nat → Int64} {X : Nat → Option Nat} (f : Nat → Int32) : ∀ {p len : Nat}, shI p = some len → hup (sysH I J X) p (.inl (0, len, .inl f)) = sysH (setI I p f) J X
  | 0, _, h => by cases h
  | 1, _, h => by cases h
  | 2, _, h => by cases h; exact sys_up (by decide) rfl
  | 3, _, h => by cases h; exact sys_up (by decide) rfl
  | 4, _, h => by cases h; exact sys_up (by decide) rfl
  | 5, _, h => by cases h; exact sys_up (by decide) rfl
  | 6, _, h => by cases h
  | 7, _, h => by cases h; exact sys_up (by decide) rfl
  | 8, _, h => by cases h; exact sys_up (by decide) rfl
  | 9, _, h => by cases h
  | 10, _, h => by cases h
  | 11, _, h => by cases h; exact sys_up (by decide) rfl
  | 12, _, h => by cases h
  | 13, _, h => by cases h
  | 14, _, h => by cases h; exact sys_up (by decide) rfl
  | 15, _, h => by cases h
  | 16, _, h => by cases h
  | 17, _, h => by cases h; exact sys_up (by decide) rfl
  | 18, _, h => by cases h; exact sys_up (by decide) rfl
  | 19, _, h => by cases h
  | 20, _, h => by cases h; exact sys_up (by decide) rfl
  | 21, _, h => by cases h
  | 22, _, h => by cases h; exact sys_up (by decide) rfl
  | 23, _, h => by cases h; exact sys_up (by decide) rfl
  | 24, _, h => by cases h
  | 25, _, h => by cases h; exact sys_up (by decide) rfl
  | 26, _, h => by cases h; exact sys_up (by decide) rfl
  | 27, _, h => by cases h; exact sys_up (by decide) rfl
  | 28, _, h => by cases h; exact sys_up (by decide) rfl
  | 29, _, h => by cases h; exact sys_up (by decide) rfl
  | 30, _, h => by cases h
  | 31, _, h => by cases h; exact sys_up (by decide) rfl
  | 32, _, h => by cases h; exact sys_up (by decide) rfl
  | 33, _, h => by cases h
  | 34, _, h => by cases h; exact sys_up (by decide) rfl
  | 35, _, h => by cases h; exact sys_up (by decide) rfl
  | 36, _, h => by cases h; exact sys_up (by decide) rfl
  | 37, _, h => by cases h; exact sys_up (by decide) rfl
  | 38, _, h => by cases h
  | 39, _, h => by cases h; exact sys_up (by decide) rfl
  | 40, _, h => by cases h; exact sys_up (by decide) rfl
  | 41, _, h => by cases h; exact sys_up (by decide) rfl
  | 42, _, h => by cases h; exact sys_up (by decide) rfl
  | 43, _, h => by cases h
  | 44, _, h => by cases h; exact sys_up (by decide) rfl
  | 45, _, h => by cases h; exact sys_up (by decide) rfl
  | 46, _, h => by cases h; exact sys_up (by decide) rfl
  | 47, _, h => by cases h
  | 48, _, h => by cases h
  | 49, _, h => by cases h
  | 50, _, h => by cases h; exact sys_up (by decide) rfl
  | 51, _, h => by cases h; exact sys_up (by decide) rfl
  | 52, _, h => by cases h; exact sys_up (by decide) rfl
  | 53, _, h => by cases h; exact sys_up (by decide) rfl
  | 54, _, h => by cases h
  | 55, _, h => by cases h; exact sys_up (by decide) rfl
  | 56, _, h => by cases h; exact sys_up (by decide) rfl
  | 57, _, h => by cases h
  | 58, _, h => by cases h; exact sys_up (by decide) rfl
  | 59, _, h => by cases h; exact sys_up (by decide) rfl
  | 60, _, h => by cases h; exact sys_up (by decide) rfl
  | 61, _, h => by cases h; exact sys_up (by decide) rfl
  | 62, _, h => by cases h
  | 63, _, h => by cases h; exact sys_up (by decide) rfl
  | 64, _, h => by cases h; exact sys_up (by decide) rfl
  | p + 65, _, h => by cases (show none = some _ from h)
theorem shJ_at {I : Nat → Nat → Int32} {J : Nat → Nat → Int64} {X : Nat → Option Nat} : ∀ {p len : Nat}, shJ p = some len → sysH I J X p = .inl (1, len, .inr (.inl (J p)))
  | 0, _, h => by cases h
  | 1, _, h => by cases h
  | 2, _, h => by cases h
  | 3, _, h => by cases h
  | 4, _, h => by cases h
  | 5, _, h => by cases h
  | 6, _, h => by cases h; rfl
  | 7, _, h => by cases h
  | 8, _, h => by cases h
  | 9, _, h => by cases h
  | 10, _, h => by cases h
  | 11, _, h => by cases h
  | 12, _, h => by cases h; rfl
  | 13, _, h => by cases h
  | 14, _, h => by cases h
  | 15, _, h => by cases h; rfl
  | 16, _, h => by cases h
  | 17, _, h => by cases h
  | 18, _, h => by cases h
  | 19, _, h => by cases h; rfl
  | 20, _, h => by cases h
  | 21, _, h => by cases h
  | 22, _, h => by cases h
  | 23, _, h => by cases h
  | 24, _, h => by cases h
  | 25, _, h => by cases h
  | 26, _, h => by cases h
  | 27, _, h => by cases h
  | 28, _, h => by cases h
  | 29, _, h => by cases h
  | 30, _, h => by cases h
  | 31, _, h => by cases h
  | 32, _, h => by cases h
  | 33, _, h => by cases h
  | 34, _, h => by cases h
  | 35, _, h => by cases h
  | 36, _, h => by cases h
  | 37, _, h => by cases h
  | 38, _, h => by cases h; rfl
  | 39, _, h => by cases h
  | 40, _, h => by cases h
  | 41, _, h => by cases h
  | 42, _, h => by cases h
  | 43, _, h => by cases h
  | 44, _, h => by cases h
  | 45, _, h => by cases h
  | 46, _, h => by cases h
  | 47, _, h => by cases h; rfl
  | 48, _, h => by cases h
  | 49, _, h => by cases h
  | 50, _, h => by cases h
  | 51, _, h => by cases h
  | 52, _, h => by cases h
  | 53, _, h => by cases h
  | 54, _, h => by cases h; rfl
  | 55, _, h => by cases h
  | 56, _, h => by cases h
  | 57, _, h => by cases h
  | 58, _, h => by cases h
  | 59, _, h => by cases h
  | 60, _, h => by cases h
  | 61, _, h => by cases h
  | 62, _, h => by cases h; rfl
  | 63, _, h => by cases h
  | 64, _, h => by cases h
  | p + 65, _, h => by cases (show none = some _ from h)
set_option maxHeartbeats 4000000 in
theorem shJ_up {I : Nat → Nat → Int32} {J : Nat → Nat → Int64} {X : Nat → Option Nat} (f : Nat → Int64) : ∀ {p len : Nat}, shJ p = some len → hup (sysH I J X) p (.inl (1, len, .inr (.inl f))) = sysH I (setJ J p f) X
  | 0, _, h => by cases h
  | 1, _, h => by cases h
  | 2, _, h => by cases h
  | 3, _, h => by cases h
  | 4, _, h => by cases h
  | 5, _, h => by cases h
  | 6, _, h => by cases h; exact sys_up (by decide) rfl
  | 7, _, h => by cases h
  | 8, _, h => by cases h
  | 9, _, h => by cases h
  | 10, _, h => by cases h
  | 11, _, h => by cases h
  | 12, _, h => by cases h; exact sys_up (by decide) rfl
  | 13, _, h => by cases h
  | 14, _, h => by cases h
  | 15, _, h => by cases h; exact sys_up (by decide) rfl
  | 16, _, h => by cases h
  | 17, _, h => by cases h
  | 18, _, h => by cases h
  | 19, _, h => by cases h; exact sys_up (by decide) rfl
  | 20, _, h => by cases h
  | 21, _, h => by cases h
  | 22, _, h => by cases h
  | 23, _, h => by cases h
  | 24, _, h => by cases h
  | 25, _, h => by cases h
  | 26, _, h => by cases h
  | 27, _, h => by cases h
  | 28, _, h => by cases h
  | 29, _, h => by cases h
  | 30, _, h => by cases h
  | 31, _, h => by cases h
  | 32, _, h => by cases h
  | 33, _, h => by cases h
  | 34, _, h => by cases h
  | 35, _, h => by cases h
  | 36, _, h => by cases h
  | 37, _, h => by cases h
  | 38, _, h => by cases h; exact sys_up (by decide) rfl
  | 39, _, h => by cases h
  | 40, _, h => by cases h
  | 41, _, h => by cases h
  | 42, _, h => by cases h
  | 43, _, h => by cases h
  | 44, _, h => by cases h
  | 45, _, h => by cases h
  | 46, _, h => by cases h
  | 47, _, h => by cases h; exact sys_up (by decide) rfl
  | 48, _, h => by cases h
  | 49, _, h => by cases h
  | 50, _, h => by cases h
  | 51, _, h => by cases h
  | 52, _, h => by cases h
  | 53, _, h => by cases h
  | 54, _, h => by cases h; exact sys_up (by decide) rfl
  | 55, _, h => by cases h
  | 56, _, h => by cases h
  | 57, _, h => by cases h
  | 58, _, h => by cases h
  | 59, _, h => by cases h
  | 60, _, h => by cases h
  | 61, _, h => by cases h
  | 62, _, h => by cases h; exact sys_up (by decide) rfl
  | 63, _, h => by cases h
  | 64, _, h => by cases h
  | p + 65, _, h => by cases (show none = some _ from h)
theorem shZ_at {I : Nat → Nat → Int32} {J : Nat → Nat → Int64} {X : Nat → Option Nat} : ∀ {p len : Nat}, shZ p = some len → sysH I J X p = .inl (2, len, .inl (I p))
  | 0, _, h => by cases h
  | 1, _, h => by cases h
  | 2, _, h => by cases h
  | 3, _, h => by cases h
  | 4, _, h => by cases h
  | 5, _, h => by cases h
  | 6, _, h => by cases h
  | 7, _, h => by cases h
  | 8, _, h => by cases h
  | 9, _, h => by cases h
  | 10, _, h => by cases h
  | 11, _, h => by cases h
  | 12, _, h => by cases h
  | 13, _, h => by cases h
  | 14, _, h => by cases h
  | 15, _, h => by cases h
  | 16, _, h => by cases h
  | 17, _, h => by cases h
  | 18, _, h => by cases h
  | 19, _, h => by cases h
  | 20, _, h => by cases h
  | 21, _, h => by cases h
  | 22, _, h => by cases h
  | 23, _, h => by cases h
  | 24, _, h => by cases h
  | 25, _, h => by cases h
  | 26, _, h => by cases h
  | 27, _, h => by cases h
  | 28, _, h => by cases h
  | 29, _, h => by cases h
  | 30, _, h => by cases h
  | 31, _, h => by cases h
  | 32, _, h => by cases h
  | 33, _, h => by cases h
  | 34, _, h => by cases h
  | 35, _, h => by cases h
  | 36, _, h => by cases h
  | 37, _, h => by cases h
  | 38, _, h => by cases h
  | 39, _, h => by cases h
  | 40, _, h => by cases h
  | 41, _, h => by cases h
  | 42, _, h => by cases h
  | 43, _, h => by cases h; rfl
  | 44, _, h => by cases h
  | 45, _, h => by cases h
  | 46, _, h => by cases h
  | 47, _, h => by cases h
  | 48, _, h => by cases h; rfl
  | 49, _, h => by cases h
  | 50, _, h => by cases h
  | 51, _, h => by cases h
  | 52, _, h => by cases h
  | 53, _, h => by cases h
  | 54, _, h => by cases h
  | 55, _, h => by cases h
  | 56, _, h => by cases h
  | 57, _, h => by cases h
  | 58, _, h => by cases h
  | 59, _, h => by cases h
  | 60, _, h => by cases h
  | 61, _, h => by cases h
  | 62, _, h => by cases h
  | 63, _, h => by cases h
  | 64, _, h => by cases h
  | p + 65, _, h => by cases (show none = some _ from h)
set_option maxHeartbeats 4000000 in
theorem shZ_up {I : Nat → Nat → Int32} {J : Nat → Nat → Int64} {X : Nat → Option Nat} (f : Nat → Int32) : ∀ {p len : Nat}, shZ p = some len → hup (sysH I J X) p (.inl (2, len, .inl f)) = sysH (setI I p f) J X
  | 0, _, h => by cases h
  | 1, _, h => by cases h
  | 2, _, h => by cases h
  | 3, _, h => by cases h
  | 4, _, h => by cases h
  | 5, _, h => by cases h
  | 6, _, h => by cases h
  | 7, _, h => by cases h
  | 8, _, h => by cases h
  | 9, _, h => by cases h
  | 10, _, h => by cases h
  | 11, _, h => by cases h
  | 12, _, h => by cases h
  | 13, _, h => by cases h
  | 14, _, h => by cases h
  | 15, _, h => by cases h
  | 16, _, h => by cases h
  | 17, _, h => by cases h
  | 18, _, h => by cases h
  | 19, _, h => by cases h
  | 20, _, h => by cases h
  | 21, _, h => by cases h
  | 22, _, h => by cases h
  | 23, _, h => by cases h
  | 24, _, h => by cases h
  | 25, _, h => by cases h
  | 26, _, h => by cases h
  | 27, _, h => by cases h
  | 28, _, h => by cases h
  | 29, _, h => by cases h
  | 30, _, h => by cases h
  | 31, _, h => by cases h
  | 32, _, h => by cases h
  | 33, _, h => by cases h
  | 34, _, h => by cases h
  | 35, _, h => by cases h
  | 36, _, h => by cases h
  | 37, _, h => by cases h
  | 38, _, h => by cases h
  | 39, _, h => by cases h
  | 40, _, h => by cases h
  | 41, _, h => by cases h
  | 42, _, h => by cases h
  | 43, _, h => by cases h; exact sys_up (by decide) rfl
  | 44, _, h => by cases h
  | 45, _, h => by cases h
  | 46, _, h => by cases h
  | 47, _, h => by cases h
  | 48, _, h => by cases h; exact sys_up (by decide) rfl
  | 49, _, h => by cases h
  | 50, _, h => by cases h
  | 51, _, h => by cases h
  | 52, _, h => by cases h
  | 53, _, h => by cases h
  | 54, _, h => by cases h
  | 55, _, h => by cases h
  | 56, _, h => by cases h
  | 57, _, h => by cases h
  | 58, _, h => by cases h
  | 59, _, h => by cases h
  | 60, _, h => by cases h
  | 61, _, h => by cases h
  | 62, _, h => by cases h
  | 63, _, h => by cases h
  | 64, _, h => by cases h
  | p + 65, _, h => by cases (show none = some _ from h)
section SROWS
variable {xl : Nat} {xs : Nat → Int32} {F L B1 B2 : Nat} {M : Mt} {pc : Nat} {lv : List (Option Value)} {st : List Value} {n : Nat} {Q : QT} {q : Nat} {I : Nat → Nat → Int32} {J : Nat → Nat → Int64} {X : Nat → Option Nat}
theorem ev_heap {h h2 : Nat → PC} (e : h = h2) (k : Ev xl xs F L B1 B2 M pc lv st n h2 Q) : Ev xl xs F L B1 B2 M pc lv st n h Q := by subst e; exact k
theorem in_nI {i : Int32} {kx len : Nat} (hi : i = nI kx) (hk : kx < len) (hl : len ≤ 1000) : vp_in i len ∧ i.toNatClampNeg = kx := by
  subst hi
  exact ⟨vp_in_nI hk (by omega), nI_clamp (by omega)⟩
theorem shI_le {p len : Nat} (h : shI p = some len) : len ≤ 1000 := by
  have : ∀ p, p < 65 → ∀ len, shI p = some len → len ≤ 1000 := by decide
  by_cases hp : p < 65
  · exact this p hp len h
  · have e : shI p = none := by unfold shI; rw [List.getD_eq_getElem?_getD, List.getElem?_eq_none (by simpa using hp)]; rfl
    rw [e] at h; cases h
theorem shJ_le {p len : Nat} (h : shJ p = some len) : len ≤ 1000 := by
  have : ∀ p, p < 65 → ∀ len, shJ p = some len → len ≤ 1000 := by decide
  by_cases hp : p < 65
  · exact this p hp len h
  · have e : shJ p = none := by unfold shJ; rw [List.getD_eq_getElem?_getD, List.getElem?_eq_none (by simpa using hp)]; rfl
    rw [e] at h; cases h
theorem shZ_le {p len : Nat} (h : shZ p = some len) : len ≤ 1000 := by
  have : ∀ p, p < 65 → ∀ len, shZ p = some len → len ≤ 1000 := by decide
  by_cases hp : p < 65
  · exact this p hp len h
  · have e : shZ p = none := by unfold shZ; rw [List.getD_eq_getElem?_getD, List.getElem?_eq_none (by simpa using hp)]; rfl
    rw [e] at h; cases h
theorem ev_iaS {p len : Nat} {i : Int32} (kx : Nat) (d : decode M.2.1 pc = .ok (.iaload, 1)) (hi : i = nI kx) (hs : shI p = some len) (hk : kx < len) (hn : p < n) (hq : pc + 1 = q) (k : Ev xl xs F L B1 B2 M q lv (.int (I p kx) :: st) n (sysH I J X) Q) : Ev xl xs F L B1 B2 M pc lv (.int i :: .ref p :: st) n (sysH I J X) Q := by
  obtain ⟨h1, h2⟩ := in_nI hi hk (shI_le hs)
  refine ev_iald d (shI_at hs) hn h1 hq ?_
  rw [h2]; exact k
theorem ev_zaS {p len : Nat} {i : Int32} (kx : Nat) (d : decode M.2.1 pc = .ok (.baload, 1)) (hi : i = nI kx) (hs : shZ p = some len) (hk : kx < len) (hn : p < n) (hq : pc + 1 = q) (k : Ev xl xs F L B1 B2 M q lv (.int (I p kx) :: st) n (sysH I J X) Q) : Ev xl xs F L B1 B2 M pc lv (.int i :: .ref p :: st) n (sysH I J X) Q := by
  obtain ⟨h1, h2⟩ := in_nI hi hk (shZ_le hs)
  refine ev_zald d (shZ_at hs) hn h1 hq ?_
  rw [h2]; exact k
theorem ev_laS {p len : Nat} {i : Int32} (kx : Nat) (d : decode M.2.1 pc = .ok (.laload, 1)) (hi : i = nI kx) (hs : shJ p = some len) (hk : kx < len) (hn : p < n) (hq : pc + 1 = q) (k : Ev xl xs F L B1 B2 M q lv (.long (J p kx) :: st) n (sysH I J X) Q) : Ev xl xs F L B1 B2 M pc lv (.int i :: .ref p :: st) n (sysH I J X) Q := by
  obtain ⟨h1, h2⟩ := in_nI hi hk (shJ_le hs)
  refine ev_lald d (shJ_at hs) hn h1 hq ?_
  rw [h2]; exact k
theorem ev_isS {p len : Nat} {i x : Int32} (kx : Nat) (d : decode M.2.1 pc = .ok (.iastore, 1)) (hi : i = nI kx) (hs : shI p = some len) (hk : kx < len) (hn : p < n) (hq : pc + 1 = q) (k : Ev xl xs F L B1 B2 M q lv st n (sysH (setI I p (upd (I p) kx x)) J X) Q) : Ev xl xs F L B1 B2 M pc lv (.int x :: .int i :: .ref p :: st) n (sysH I J X) Q := by
  obtain ⟨h1, h2⟩ := in_nI hi hk (shI_le hs)
  refine ev_iast d (shI_at hs) hn h1 hq ?_
  rw [h2, shI_up _ hs]; exact k
theorem ev_zsS {p len : Nat} {i x : Int32} (kx : Nat) (d : decode M.2.1 pc = .ok (.bastore, 1)) (hi : i = nI kx) (hs : shZ p = some len) (hk : kx < len) (hn : p < n) (hx : vp_nar .boolean x = x) (hq : pc + 1 = q) (k : Ev xl xs F L B1 B2 M q lv st n (sysH (setI I p (upd (I p) kx x)) J X) Q) : Ev xl xs F L B1 B2 M pc lv (.int x :: .int i :: .ref p :: st) n (sysH I J X) Q := by
  obtain ⟨h1, h2⟩ := in_nI hi hk (shZ_le hs)
  refine ev_zast d (shZ_at hs) hn h1 hq ?_
  rw [h2, hx, shZ_up _ hs]; exact k
theorem ev_lsS {p len : Nat} {i : Int32} {x : Int64} (kx : Nat) (d : decode M.2.1 pc = .ok (.lastore, 1)) (hi : i = nI kx) (hs : shJ p = some len) (hk : kx < len) (hn : p < n) (hq : pc + 1 = q) (k : Ev xl xs F L B1 B2 M q lv st n (sysH I (setJ J p (vp_updL (J p) kx x)) X) Q) : Ev xl xs F L B1 B2 M pc lv (.long x :: .int i :: .ref p :: st) n (sysH I J X) Q := by
  obtain ⟨h1, h2⟩ := in_nI hi hk (shJ_le hs)
  refine ev_last d (shJ_at hs) hn h1 hq ?_
  rw [h2, shJ_up _ hs]; exact k
theorem ev_putI {idx ci j p : Nat} {fs : List Value} {x : Int32} {ty : FieldType} (d : decode M.2.1 pc = .ok (.putfield idx, 3)) (fa : FA M.1.cls idx ci j ty false) (hc : sysH I J X p = .inr (ci, fs)) (hp : p < 65) (hn : p < n) (hj : j < fs.length) (hv : narrow ty (.int x) = .int x ∧ fits ty (.int x) = true) (hf : (sysL I J X).set p (.inr (ci, fs.set j (.int x))) = sysL (setI I p (upd (I p) j x)) J X) (hq : pc + 3 = q) (k : Ev xl xs F L B1 B2 M q lv st n (sysH (setI I p (upd (I p) j x)) J X) Q) : Ev xl xs F L B1 B2 M pc lv (.int x :: .ref p :: st) n (sysH I J X) Q := by
  refine ev_put d fa hc hn hj (fun _ => hv) hq ?_
  rw [sys_up hp hf]; exact k
theorem ev_putJ {idx ci j p : Nat} {fs : List Value} {x : Int64} {ty : FieldType} (d : decode M.2.1 pc = .ok (.putfield idx, 3)) (fa : FA M.1.cls idx ci j ty false) (hc : sysH I J X p = .inr (ci, fs)) (hp : p < 65) (hn : p < n) (hj : j < fs.length) (hv : narrow ty (.long x) = .long x ∧ fits ty (.long x) = true) (hf : (sysL I J X).set p (.inr (ci, fs.set j (.long x))) = sysL I (setJ J p (vp_updL (J p) j x)) X) (hq : pc + 3 = q) (k : Ev xl xs F L B1 B2 M q lv st n (sysH I (setJ J p (vp_updL (J p) j x)) X) Q) : Ev xl xs F L B1 B2 M pc lv (.long x :: .ref p :: st) n (sysH I J X) Q := by
  refine ev_put d fa hc hn hj (fun _ => hv) hq ?_
  rw [sys_up hp hf]; exact k
end SROWS
