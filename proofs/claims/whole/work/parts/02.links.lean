def TB : List Cond := lw_tbl.filter goodWord
def isNest : Cond → Bool
  | .methodLinkNest .. => true
  | .fieldLinkNest .. => true
  | _ => false
def NT : List Cond := lw_tbl.filter isNest
theorem tb_good : GoodIn TB TB := fun w h => ⟨h, good_of_word (List.mem_filter.mp h).2⟩
theorem tb_in {w : Cond} (h : w ∈ lw_tbl) (g : goodWord w = true) : w ∈ TB := List.mem_filter.mpr ⟨h, g⟩
theorem tt_1 {w : Cond} (i : Nat) (h : tables_1_1[i]? = some w) : w ∈ lw_tbl := List.mem_append_right _ (List.mem_append_left _ (List.mem_of_getElem? h))
theorem tt_2 {w : Cond} (i : Nat) (h : tables_1_2[i]? = some w) : w ∈ lw_tbl := List.mem_append_right _ (List.mem_append_right _ (List.mem_append_left _ (List.mem_of_getElem? h)))
theorem tt_3 {w : Cond} (i : Nat) (h : tables_1_3[i]? = some w) : w ∈ lw_tbl := List.mem_append_right _ (List.mem_append_right _ (List.mem_append_right _ (List.mem_append_left _ (List.mem_of_getElem? h))))
theorem tt_4 {w : Cond} (i : Nat) (h : tables_1_4[i]? = some w) : w ∈ lw_tbl := List.mem_append_right _ (List.mem_append_right _ (List.mem_append_right _ (List.mem_append_right _ (List.mem_append_left _ (List.mem_of_getElem? h)))))
theorem tt_5 {w : Cond} (i : Nat) (h : tables_1_5[i]? = some w) : w ∈ lw_tbl := List.mem_append_right _ (List.mem_append_right _ (List.mem_append_right _ (List.mem_append_right _ (List.mem_append_right _ (List.mem_of_getElem? h)))))
theorem tp_1 {q : MethodName × Nat} (i : Nat) (h : lw_privs_1[i]? = some q) : Cond.selects q.1.cls q.1 q.1 ∈ lw_tbl := List.mem_append_left _ (List.mem_map.mpr ⟨q, List.mem_append_left _ (List.mem_of_getElem? h), rfl⟩)
theorem tp_2 {q : MethodName × Nat} (i : Nat) (h : lw_privs_2[i]? = some q) : Cond.selects q.1.cls q.1 q.1 ∈ lw_tbl := List.mem_append_left _ (List.mem_map.mpr ⟨q, List.mem_append_right _ (List.mem_append_left _ (List.mem_of_getElem? h)), rfl⟩)
theorem tp_3 {q : MethodName × Nat} (i : Nat) (h : lw_privs_3[i]? = some q) : Cond.selects q.1.cls q.1 q.1 ∈ lw_tbl := List.mem_append_left _ (List.mem_map.mpr ⟨q, List.mem_append_right _ (List.mem_append_right _ (List.mem_append_left _ (List.mem_of_getElem? h))), rfl⟩)
theorem tp_4 {q : MethodName × Nat} (i : Nat) (h : lw_privs_4[i]? = some q) : Cond.selects q.1.cls q.1 q.1 ∈ lw_tbl := List.mem_append_left _ (List.mem_map.mpr ⟨q, List.mem_append_right _ (List.mem_append_right _ (List.mem_append_right _ (List.mem_of_getElem? h))), rfl⟩)
abbrev Mt : Type := MethodName × ByteArray × Nat × Option FieldType
def CI (ci : Nat) (C : String) (T : u_T) (N : Nat) (ty : Nat → FieldType) : Prop := vwCl[ci]? = some (C, T, N) ∧ (∀ w ∈ u_ws C T N, w ∈ TB) ∧ (∀ k, k < N → parseFieldDescriptor (T k).2.2.1 = some (ty k)) ∧ (∀ a, a < N → ∀ b, b < N → a ≠ b → (T a).2.1 ≠ (T b).2.1)
def FA (own : String) (idx ci j : Nat) (ty : FieldType) (fin : Bool) : Prop := ∃ (C : String) (T : u_T) (N : Nat) (tf : Nat → FieldType), CI ci C T N tf ∧ j < N ∧ Cond.fieldLink own idx (T j).1 (T j).2.1 (T j).2.2.1 ∈ TB ∧ tf j = ty ∧ (T j).2.2.2 = fin ∧ (fin = true → (T j).1 = own)
def okd (y : MethodName) (na : Nat) : Prop := y.cls ≠ "java/lang/invoke/MethodHandle" ∧ y.cls ≠ "java/lang/invoke/VarHandle" ∧ (parseMethodDescriptor y.desc).map (fun d => d.parameters.length) = some na
def CB (M : Mt) (na : Nat) : Prop := Cond.code M.1 M.2.1 M.2.2.1 M.2.2.2 ∈ TB ∧ Cond.initialized M.1.cls ∈ TB ∧ okd M.1 na ∧ plainName M.1.cls = true
def CV (own : String) (idx : Nat) (M : Mt) (na : Nat) : Prop := CB M na ∧ Cond.methodLink own idx M.1 ∈ TB ∧ Cond.instanceMethod M.1 ∈ TB ∧ Cond.selects M.1.cls M.1 M.1 ∈ TB
def CS (own : String) (idx : Nat) (M : Mt) (na : Nat) : Prop := CB M na ∧ Cond.methodLink own idx M.1 ∈ TB ∧ Cond.static M.1 ∈ TB
def CSn (own : String) (idx : Nat) (M : Mt) (na : Nat) : Prop := CB M na ∧ (∃ host, Cond.methodLinkNest own idx M.1 host ∈ NT) ∧ Cond.static M.1 ∈ TB
def CN (own : String) (idx : Nat) (M : Mt) (na : Nat) : Prop := CB M na ∧ Cond.methodLink own idx M.1 ∈ TB ∧ Cond.instanceMethod M.1 ∈ TB ∧ M.1.name = "<init>" ∧ M.2.2.2 = none
def CNn (own : String) (idx : Nat) (M : Mt) (na : Nat) : Prop := CB M na ∧ (∃ host, Cond.methodLinkNest own idx M.1 host ∈ NT) ∧ Cond.instanceMethod M.1 ∈ TB ∧ M.1.name = "<init>" ∧ M.2.2.2 = none
def FA0 (own : String) (idx ci j : Nat) : Prop := ∃ (C : String) (T : u_T) (N : Nat) (tf : Nat → FieldType), CI ci C T N tf ∧ j < N ∧ Cond.fieldLink own idx (T j).1 (T j).2.1 (T j).2.2.1 ∈ TB
theorem FA.r {own : String} {idx ci j : Nat} {ty : FieldType} {fin : Bool} (h : FA own idx ci j ty fin) : FA0 own idx ci j := by
  obtain ⟨C, T, N, tf, h1, h2, h3, -⟩ := h
  exact ⟨C, T, N, tf, h1, h2, h3⟩
theorem inX0 : ∀ w ∈ u_ws RX0 TX0 3, w ∈ TB := by
  intro w hw
  obtain ⟨k, hk, rfl⟩ := List.mem_map.mp hw
  have hk := List.mem_range.mp hk
  match k, hk with
  | 0, _ => exact tb_in (tt_1 214 rfl) rfl
  | 1, _ => exact tb_in (tt_1 216 rfl) rfl
  | 2, _ => exact tb_in (tt_1 218 rfl) rfl
  | k + 3, h => exact absurd h (by omega)
theorem ciX0 : CI 0 RX0 TX0 3 tyX0 := ⟨rfl, inX0, tyX0_ok, nmX0⟩
theorem inX1 : ∀ w ∈ u_ws RX1 TX1 3, w ∈ TB := by
  intro w hw
  obtain ⟨k, hk, rfl⟩ := List.mem_map.mp hw
  have hk := List.mem_range.mp hk
  match k, hk with
  | 0, _ => exact tb_in (tt_1 116 rfl) rfl
  | 1, _ => exact tb_in (tt_1 118 rfl) rfl
  | 2, _ => exact tb_in (tt_1 120 rfl) rfl
  | k + 3, h => exact absurd h (by omega)
theorem ciX1 : CI 1 RX1 TX1 3 tyX1 := ⟨rfl, inX1, tyX1_ok, nmX1⟩
theorem inX2 : ∀ w ∈ u_ws RX2 TX2 8, w ∈ TB := by
  intro w hw
  obtain ⟨k, hk, rfl⟩ := List.mem_map.mp hw
  have hk := List.mem_range.mp hk
  match k, hk with
  | 0, _ => exact tb_in (tt_1 185 rfl) rfl
  | 1, _ => exact tb_in (tt_1 187 rfl) rfl
  | 2, _ => exact tb_in (tt_1 189 rfl) rfl
  | 3, _ => exact tb_in (tt_1 191 rfl) rfl
  | 4, _ => exact tb_in (tt_1 193 rfl) rfl
  | 5, _ => exact tb_in (tt_1 195 rfl) rfl
  | 6, _ => exact tb_in (tt_1 197 rfl) rfl
  | 7, _ => exact tb_in (tt_1 199 rfl) rfl
  | k + 8, h => exact absurd h (by omega)
theorem ciX2 : CI 2 RX2 TX2 8 tyX2 := ⟨rfl, inX2, tyX2_ok, nmX2⟩
theorem inX3 : ∀ w ∈ u_ws RX3 TX3 4, w ∈ TB := by
  intro w hw
  obtain ⟨k, hk, rfl⟩ := List.mem_map.mp hw
  have hk := List.mem_range.mp hk
  match k, hk with
  | 0, _ => exact tb_in (tt_1 160 rfl) rfl
  | 1, _ => exact tb_in (tt_1 162 rfl) rfl
  | 2, _ => exact tb_in (tt_1 164 rfl) rfl
  | 3, _ => exact tb_in (tt_1 166 rfl) rfl
  | k + 4, h => exact absurd h (by omega)
theorem ciX3 : CI 3 RX3 TX3 4 tyX3 := ⟨rfl, inX3, tyX3_ok, nmX3⟩
theorem inX4 : ∀ w ∈ u_ws RX4 TX4 16, w ∈ TB := by
  intro w hw
  obtain ⟨k, hk, rfl⟩ := List.mem_map.mp hw
  have hk := List.mem_range.mp hk
  match k, hk with
  | 0, _ => exact tb_in (tt_1 69 rfl) rfl
  | 1, _ => exact tb_in (tt_1 71 rfl) rfl
  | 2, _ => exact tb_in (tt_1 73 rfl) rfl
  | 3, _ => exact tb_in (tt_1 75 rfl) rfl
  | 4, _ => exact tb_in (tt_1 77 rfl) rfl
  | 5, _ => exact tb_in (tt_1 79 rfl) rfl
  | 6, _ => exact tb_in (tt_1 81 rfl) rfl
  | 7, _ => exact tb_in (tt_1 83 rfl) rfl
  | 8, _ => exact tb_in (tt_1 85 rfl) rfl
  | 9, _ => exact tb_in (tt_1 87 rfl) rfl
  | 10, _ => exact tb_in (tt_1 89 rfl) rfl
  | 11, _ => exact tb_in (tt_1 91 rfl) rfl
  | 12, _ => exact tb_in (tt_1 93 rfl) rfl
  | 13, _ => exact tb_in (tt_1 95 rfl) rfl
  | 14, _ => exact tb_in (tt_1 97 rfl) rfl
  | 15, _ => exact tb_in (tt_1 99 rfl) rfl
  | k + 16, h => exact absurd h (by omega)
theorem ciX4 : CI 4 RX4 TX4 16 tyX4 := ⟨rfl, inX4, tyX4_ok, nmX4⟩
theorem inX5 : ∀ w ∈ u_ws RX5 TX5 5, w ∈ TB := by
  intro w hw
  obtain ⟨k, hk, rfl⟩ := List.mem_map.mp hw
  have hk := List.mem_range.mp hk
  match k, hk with
  | 0, _ => exact tb_in (tt_1 138 rfl) rfl
  | 1, _ => exact tb_in (tt_1 140 rfl) rfl
  | 2, _ => exact tb_in (tt_1 142 rfl) rfl
  | 3, _ => exact tb_in (tt_1 144 rfl) rfl
  | 4, _ => exact tb_in (tt_1 146 rfl) rfl
  | k + 5, h => exact absurd h (by omega)
theorem ciX5 : CI 5 RX5 TX5 5 tyX5 := ⟨rfl, inX5, tyX5_ok, nmX5⟩
theorem inX6 : ∀ w ∈ u_ws RX6 TX6 10, w ∈ TB := by
  intro w hw
  obtain ⟨k, hk, rfl⟩ := List.mem_map.mp hw
  have hk := List.mem_range.mp hk
  match k, hk with
  | 0, _ => exact tb_in (tt_2 17 rfl) rfl
  | 1, _ => exact tb_in (tt_2 19 rfl) rfl
  | 2, _ => exact tb_in (tt_2 21 rfl) rfl
  | 3, _ => exact tb_in (tt_2 23 rfl) rfl
  | 4, _ => exact tb_in (tt_2 25 rfl) rfl
  | 5, _ => exact tb_in (tt_2 27 rfl) rfl
  | 6, _ => exact tb_in (tt_2 29 rfl) rfl
  | 7, _ => exact tb_in (tt_2 31 rfl) rfl
  | 8, _ => exact tb_in (tt_2 33 rfl) rfl
  | 9, _ => exact tb_in (tt_2 35 rfl) rfl
  | k + 10, h => exact absurd h (by omega)
theorem ciX6 : CI 6 RX6 TX6 10 tyX6 := ⟨rfl, inX6, tyX6_ok, nmX6⟩
theorem inX7 : ∀ w ∈ u_ws RX7 TX7 29, w ∈ TB := by
  intro w hw
  obtain ⟨k, hk, rfl⟩ := List.mem_map.mp hw
  have hk := List.mem_range.mp hk
  match k, hk with
  | 0, _ => exact tb_in (tt_4 18 rfl) rfl
  | 1, _ => exact tb_in (tt_4 20 rfl) rfl
  | 2, _ => exact tb_in (tt_4 22 rfl) rfl
  | 3, _ => exact tb_in (tt_4 24 rfl) rfl
  | 4, _ => exact tb_in (tt_4 26 rfl) rfl
  | 5, _ => exact tb_in (tt_4 28 rfl) rfl
  | 6, _ => exact tb_in (tt_4 30 rfl) rfl
  | 7, _ => exact tb_in (tt_4 32 rfl) rfl
  | 8, _ => exact tb_in (tt_4 34 rfl) rfl
  | 9, _ => exact tb_in (tt_4 36 rfl) rfl
  | 10, _ => exact tb_in (tt_4 38 rfl) rfl
  | 11, _ => exact tb_in (tt_4 40 rfl) rfl
  | 12, _ => exact tb_in (tt_4 42 rfl) rfl
  | 13, _ => exact tb_in (tt_4 44 rfl) rfl
  | 14, _ => exact tb_in (tt_4 46 rfl) rfl
  | 15, _ => exact tb_in (tt_4 48 rfl) rfl
  | 16, _ => exact tb_in (tt_4 50 rfl) rfl
  | 17, _ => exact tb_in (tt_4 52 rfl) rfl
  | 18, _ => exact tb_in (tt_4 54 rfl) rfl
  | 19, _ => exact tb_in (tt_4 56 rfl) rfl
  | 20, _ => exact tb_in (tt_4 58 rfl) rfl
  | 21, _ => exact tb_in (tt_4 60 rfl) rfl
  | 22, _ => exact tb_in (tt_4 62 rfl) rfl
  | 23, _ => exact tb_in (tt_4 64 rfl) rfl
  | 24, _ => exact tb_in (tt_4 66 rfl) rfl
  | 25, _ => exact tb_in (tt_4 68 rfl) rfl
  | 26, _ => exact tb_in (tt_4 70 rfl) rfl
  | 27, _ => exact tb_in (tt_4 72 rfl) rfl
  | 28, _ => exact tb_in (tt_4 74 rfl) rfl
  | k + 29, h => exact absurd h (by omega)
theorem ciX7 : CI 7 RX7 TX7 29 tyX7 := ⟨rfl, inX7, tyX7_ok, nmX7⟩
theorem fa_X4_34 : FA RX4 34 4 0 (.int) false := ⟨RX4, TX4, 16, tyX4, ciX4, by decide, tb_in (tt_1 26 rfl) rfl, rfl, rfl, (fun h => by cases h)⟩
theorem fr_X4_34 : FA0 RX4 34 4 0 := fa_X4_34.r
theorem fa_X6_74 : FA RX6 74 4 0 (.int) false := ⟨RX4, TX4, 16, tyX4, ciX4, by decide, tb_in (tt_1 27 rfl) rfl, rfl, rfl, (fun h => by cases h)⟩
theorem fr_X6_74 : FA0 RX6 74 4 0 := fa_X6_74.r
theorem fa_X3_90 : FA RX3 90 4 0 (.int) false := ⟨RX4, TX4, 16, tyX4, ciX4, by decide, tb_in (tt_1 28 rfl) rfl, rfl, rfl, (fun h => by cases h)⟩
theorem fr_X3_90 : FA0 RX3 90 4 0 := fa_X3_90.r
theorem fa_X4_38 : FA RX4 38 4 1 (.int) false := ⟨RX4, TX4, 16, tyX4, ciX4, by decide, tb_in (tt_1 29 rfl) rfl, rfl, rfl, (fun h => by cases h)⟩
theorem fr_X4_38 : FA0 RX4 38 4 1 := fa_X4_38.r
theorem fa_X6_103 : FA RX6 103 4 1 (.int) false := ⟨RX4, TX4, 16, tyX4, ciX4, by decide, tb_in (tt_1 30 rfl) rfl, rfl, rfl, (fun h => by cases h)⟩
theorem fr_X6_103 : FA0 RX6 103 4 1 := fa_X6_103.r
theorem fa_X4_41 : FA RX4 41 4 2 (.int) false := ⟨RX4, TX4, 16, tyX4, ciX4, by decide, tb_in (tt_1 31 rfl) rfl, rfl, rfl, (fun h => by cases h)⟩
theorem fr_X4_41 : FA0 RX4 41 4 2 := fa_X4_41.r
theorem fa_X3_37 : FA RX3 37 4 2 (.int) false := ⟨RX4, TX4, 16, tyX4, ciX4, by decide, tb_in (tt_1 32 rfl) rfl, rfl, rfl, (fun h => by cases h)⟩
theorem fr_X3_37 : FA0 RX3 37 4 2 := fa_X3_37.r
theorem fa_X6_91 : FA RX6 91 4 2 (.int) false := ⟨RX4, TX4, 16, tyX4, ciX4, by decide, tb_in (tt_1 33 rfl) rfl, rfl, rfl, (fun h => by cases h)⟩
theorem fr_X6_91 : FA0 RX6 91 4 2 := fa_X6_91.r
theorem fa_X3_29 : FA RX3 29 4 3 (.int) false := ⟨RX4, TX4, 16, tyX4, ciX4, by decide, tb_in (tt_1 34 rfl) rfl, rfl, rfl, (fun h => by cases h)⟩
theorem fr_X3_29 : FA0 RX3 29 4 3 := fa_X3_29.r
theorem fa_X4_44 : FA RX4 44 4 3 (.int) false := ⟨RX4, TX4, 16, tyX4, ciX4, by decide, tb_in (tt_1 35 rfl) rfl, rfl, rfl, (fun h => by cases h)⟩
theorem fr_X4_44 : FA0 RX4 44 4 3 := fa_X4_44.r
theorem fa_X6_94 : FA RX6 94 4 3 (.int) false := ⟨RX4, TX4, 16, tyX4, ciX4, by decide, tb_in (tt_1 36 rfl) rfl, rfl, rfl, (fun h => by cases h)⟩
theorem fr_X6_94 : FA0 RX6 94 4 3 := fa_X6_94.r
theorem fa_X4_47 : FA RX4 47 4 4 (.int) false := ⟨RX4, TX4, 16, tyX4, ciX4, by decide, tb_in (tt_1 37 rfl) rfl, rfl, rfl, (fun h => by cases h)⟩
theorem fr_X4_47 : FA0 RX4 47 4 4 := fa_X4_47.r
theorem fa_X2_63 : FA RX2 63 4 4 (.int) false := ⟨RX4, TX4, 16, tyX4, ciX4, by decide, tb_in (tt_1 38 rfl) rfl, rfl, rfl, (fun h => by cases h)⟩
theorem fr_X2_63 : FA0 RX2 63 4 4 := fa_X2_63.r
theorem fa_X6_97 : FA RX6 97 4 4 (.int) false := ⟨RX4, TX4, 16, tyX4, ciX4, by decide, tb_in (tt_1 39 rfl) rfl, rfl, rfl, (fun h => by cases h)⟩
theorem fr_X6_97 : FA0 RX6 97 4 4 := fa_X6_97.r
theorem fa_X3_87 : FA RX3 87 4 4 (.int) false := ⟨RX4, TX4, 16, tyX4, ciX4, by decide, tb_in (tt_1 40 rfl) rfl, rfl, rfl, (fun h => by cases h)⟩
theorem fr_X3_87 : FA0 RX3 87 4 4 := fa_X3_87.r
theorem fa_X4_54 : FA RX4 54 4 5 (.long) false := ⟨RX4, TX4, 16, tyX4, ciX4, by decide, tb_in (tt_1 41 rfl) rfl, rfl, rfl, (fun h => by cases h)⟩
theorem fr_X4_54 : FA0 RX4 54 4 5 := fa_X4_54.r
theorem fa_X3_80 : FA RX3 80 4 5 (.long) false := ⟨RX4, TX4, 16, tyX4, ciX4, by decide, tb_in (tt_1 42 rfl) rfl, rfl, rfl, (fun h => by cases h)⟩
theorem fr_X3_80 : FA0 RX3 80 4 5 := fa_X3_80.r
theorem fa_X2_80 : FA RX2 80 4 5 (.long) false := ⟨RX4, TX4, 16, tyX4, ciX4, by decide, tb_in (tt_1 43 rfl) rfl, rfl, rfl, (fun h => by cases h)⟩
theorem fr_X2_80 : FA0 RX2 80 4 5 := fa_X2_80.r
theorem fa_X6_139 : FA RX6 139 4 5 (.long) false := ⟨RX4, TX4, 16, tyX4, ciX4, by decide, tb_in (tt_1 44 rfl) rfl, rfl, rfl, (fun h => by cases h)⟩
theorem fr_X6_139 : FA0 RX6 139 4 5 := fa_X6_139.r
theorem fa_X4_9 : FA RX4 9 4 6 (.array .int) true := ⟨RX4, TX4, 16, tyX4, ciX4, by decide, tb_in (tt_1 45 rfl) rfl, rfl, rfl, (fun _ => rfl)⟩
theorem fr_X4_9 : FA0 RX4 9 4 6 := fa_X4_9.r
theorem fr_X3_26 : FA0 RX3 26 4 6 := ⟨RX4, TX4, 16, tyX4, ciX4, by decide, tb_in (tt_1 46 rfl) rfl⟩
theorem fr_X6_85 : FA0 RX6 85 4 6 := ⟨RX4, TX4, 16, tyX4, ciX4, by decide, tb_in (tt_1 47 rfl) rfl⟩
theorem fa_X4_15 : FA RX4 15 4 7 (.array .int) true := ⟨RX4, TX4, 16, tyX4, ciX4, by decide, tb_in (tt_1 48 rfl) rfl, rfl, rfl, (fun _ => rfl)⟩
theorem fr_X4_15 : FA0 RX4 15 4 7 := fa_X4_15.r
theorem fr_X3_40 : FA0 RX3 40 4 7 := ⟨RX4, TX4, 16, tyX4, ciX4, by decide, tb_in (tt_1 49 rfl) rfl⟩
theorem fr_X6_88 : FA0 RX6 88 4 7 := ⟨RX4, TX4, 16, tyX4, ciX4, by decide, tb_in (tt_1 50 rfl) rfl⟩
theorem fa_X4_18 : FA RX4 18 4 8 (.array .int) true := ⟨RX4, TX4, 16, tyX4, ciX4, by decide, tb_in (tt_1 51 rfl) rfl, rfl, rfl, (fun _ => rfl)⟩
theorem fr_X4_18 : FA0 RX4 18 4 8 := fa_X4_18.r
theorem fr_X6_249 : FA0 RX6 249 4 8 := ⟨RX4, TX4, 16, tyX4, ciX4, by decide, tb_in (tt_1 52 rfl) rfl⟩
theorem fa_X4_21 : FA RX4 21 4 9 (.array .int) true := ⟨RX4, TX4, 16, tyX4, ciX4, by decide, tb_in (tt_1 53 rfl) rfl, rfl, rfl, (fun _ => rfl)⟩
theorem fr_X4_21 : FA0 RX4 21 4 9 := fa_X4_21.r
theorem fr_X6_179 : FA0 RX6 179 4 9 := ⟨RX4, TX4, 16, tyX4, ciX4, by decide, tb_in (tt_1 54 rfl) rfl⟩
theorem fa_X4_58 : FA RX4 58 4 10 (.int) false := ⟨RX4, TX4, 16, tyX4, ciX4, by decide, tb_in (tt_1 55 rfl) rfl, rfl, rfl, (fun h => by cases h)⟩
theorem fr_X4_58 : FA0 RX4 58 4 10 := fa_X4_58.r
theorem fa_X6_106 : FA RX6 106 4 10 (.int) false := ⟨RX4, TX4, 16, tyX4, ciX4, by decide, tb_in (tt_1 56 rfl) rfl, rfl, rfl, (fun h => by cases h)⟩
theorem fr_X6_106 : FA0 RX6 106 4 10 := fa_X6_106.r
theorem fa_X4_24 : FA RX4 24 4 11 (.array .long) true := ⟨RX4, TX4, 16, tyX4, ciX4, by decide, tb_in (tt_1 57 rfl) rfl, rfl, rfl, (fun _ => rfl)⟩
theorem fr_X4_24 : FA0 RX4 24 4 11 := fa_X4_24.r
theorem fa_X4_64 : FA RX4 64 4 12 (.int) false := ⟨RX4, TX4, 16, tyX4, ciX4, by decide, tb_in (tt_1 58 rfl) rfl, rfl, rfl, (fun h => by cases h)⟩
theorem fr_X4_64 : FA0 RX4 64 4 12 := fa_X4_64.r
theorem fa_X6_258 : FA RX6 258 4 12 (.int) false := ⟨RX4, TX4, 16, tyX4, ciX4, by decide, tb_in (tt_1 59 rfl) rfl, rfl, rfl, (fun h => by cases h)⟩
theorem fr_X6_258 : FA0 RX6 258 4 12 := fa_X6_258.r
theorem fa_X4_28 : FA RX4 28 4 13 (.array .int) true := ⟨RX4, TX4, 16, tyX4, ciX4, by decide, tb_in (tt_1 60 rfl) rfl, rfl, rfl, (fun _ => rfl)⟩
theorem fr_X4_28 : FA0 RX4 28 4 13 := fa_X4_28.r
theorem fr_X3_64 : FA0 RX3 64 4 13 := ⟨RX4, TX4, 16, tyX4, ciX4, by decide, tb_in (tt_1 61 rfl) rfl⟩
theorem fr_X6_277 : FA0 RX6 277 4 13 := ⟨RX4, TX4, 16, tyX4, ciX4, by decide, tb_in (tt_1 62 rfl) rfl⟩
theorem fa_X4_31 : FA RX4 31 4 14 (.array .int) true := ⟨RX4, TX4, 16, tyX4, ciX4, by decide, tb_in (tt_1 63 rfl) rfl, rfl, rfl, (fun _ => rfl)⟩
theorem fr_X4_31 : FA0 RX4 31 4 14 := fa_X4_31.r
theorem fr_X3_71 : FA0 RX3 71 4 14 := ⟨RX4, TX4, 16, tyX4, ciX4, by decide, tb_in (tt_1 64 rfl) rfl⟩
theorem fr_X6_280 : FA0 RX6 280 4 14 := ⟨RX4, TX4, 16, tyX4, ciX4, by decide, tb_in (tt_1 65 rfl) rfl⟩
theorem fa_X4_67 : FA RX4 67 4 15 (.int) false := ⟨RX4, TX4, 16, tyX4, ciX4, by decide, tb_in (tt_1 66 rfl) rfl, rfl, rfl, (fun h => by cases h)⟩
theorem fr_X4_67 : FA0 RX4 67 4 15 := fa_X4_67.r
theorem fa_X3_61 : FA RX3 61 4 15 (.int) false := ⟨RX4, TX4, 16, tyX4, ciX4, by decide, tb_in (tt_1 67 rfl) rfl, rfl, rfl, (fun h => by cases h)⟩
theorem fr_X3_61 : FA0 RX3 61 4 15 := fa_X3_61.r
theorem fa_X6_274 : FA RX6 274 4 15 (.int) false := ⟨RX4, TX4, 16, tyX4, ciX4, by decide, tb_in (tt_1 68 rfl) rfl, rfl, rfl, (fun h => by cases h)⟩
theorem fr_X6_274 : FA0 RX6 274 4 15 := fa_X6_274.r
theorem fa_X1_9 : FA RX1 9 1 0 (.array .int) true := ⟨RX1, TX1, 3, tyX1, ciX1, by decide, tb_in (tt_1 111 rfl) rfl, rfl, rfl, (fun _ => rfl)⟩
theorem fr_X1_9 : FA0 RX1 9 1 0 := fa_X1_9.r
theorem fr_X6_314 : FA0 RX6 314 1 0 := ⟨RX1, TX1, 3, tyX1, ciX1, by decide, tb_in (tt_1 112 rfl) rfl⟩
theorem fa_X1_19 : FA RX1 19 1 1 (.int) false := ⟨RX1, TX1, 3, tyX1, ciX1, by decide, tb_in (tt_1 113 rfl) rfl, rfl, rfl, (fun h => by cases h)⟩
theorem fr_X1_19 : FA0 RX1 19 1 1 := fa_X1_19.r
theorem fa_X6_116 : FA RX6 116 1 1 (.int) false := ⟨RX1, TX1, 3, tyX1, ciX1, by decide, tb_in (tt_1 114 rfl) rfl, rfl, rfl, (fun h => by cases h)⟩
theorem fr_X6_116 : FA0 RX6 116 1 1 := fa_X6_116.r
theorem fa_X1_15 : FA RX1 15 1 2 (.array .long) true := ⟨RX1, TX1, 3, tyX1, ciX1, by decide, tb_in (tt_1 115 rfl) rfl, rfl, rfl, (fun _ => rfl)⟩
theorem fr_X1_15 : FA0 RX1 15 1 2 := fa_X1_15.r
theorem fa_X5_25 : FA RX5 25 5 0 (.int) false := ⟨RX5, TX5, 5, tyX5, ciX5, by decide, tb_in (tt_1 129 rfl) rfl, rfl, rfl, (fun h => by cases h)⟩
theorem fr_X5_25 : FA0 RX5 25 5 0 := fa_X5_25.r
theorem fa_X6_211 : FA RX6 211 5 0 (.int) false := ⟨RX5, TX5, 5, tyX5, ciX5, by decide, tb_in (tt_1 130 rfl) rfl, rfl, rfl, (fun h => by cases h)⟩
theorem fr_X6_211 : FA0 RX6 211 5 0 := fa_X6_211.r
theorem fa_X5_9 : FA RX5 9 5 1 (.array .int) true := ⟨RX5, TX5, 5, tyX5, ciX5, by decide, tb_in (tt_1 131 rfl) rfl, rfl, rfl, (fun _ => rfl)⟩
theorem fr_X5_9 : FA0 RX5 9 5 1 := fa_X5_9.r
theorem fr_X3_84 : FA0 RX3 84 5 1 := ⟨RX5, TX5, 5, tyX5, ciX5, by decide, tb_in (tt_1 132 rfl) rfl⟩
theorem fa_X5_15 : FA RX5 15 5 2 (.array .int) true := ⟨RX5, TX5, 5, tyX5, ciX5, by decide, tb_in (tt_1 133 rfl) rfl, rfl, rfl, (fun _ => rfl)⟩
theorem fr_X5_15 : FA0 RX5 15 5 2 := fa_X5_15.r
theorem fr_X3_99 : FA0 RX3 99 5 2 := ⟨RX5, TX5, 5, tyX5, ciX5, by decide, tb_in (tt_1 134 rfl) rfl⟩
theorem fa_X5_18 : FA RX5 18 5 3 (.array .long) true := ⟨RX5, TX5, 5, tyX5, ciX5, by decide, tb_in (tt_1 135 rfl) rfl, rfl, rfl, (fun _ => rfl)⟩
theorem fr_X5_18 : FA0 RX5 18 5 3 := fa_X5_18.r
theorem fr_X3_74 : FA0 RX3 74 5 3 := ⟨RX5, TX5, 5, tyX5, ciX5, by decide, tb_in (tt_1 136 rfl) rfl⟩
theorem fa_X5_22 : FA RX5 22 5 4 (.array .int) true := ⟨RX5, TX5, 5, tyX5, ciX5, by decide, tb_in (tt_1 137 rfl) rfl, rfl, rfl, (fun _ => rfl)⟩
theorem fr_X5_22 : FA0 RX5 22 5 4 := fa_X5_22.r
theorem fa_X3_18 : FA RX3 18 3 0 (.object "WishLamp$State") true := ⟨RX3, TX3, 4, tyX3, ciX3, by decide, tb_in (tt_1 155 rfl) rfl, rfl, rfl, (fun _ => rfl)⟩
theorem fr_X3_18 : FA0 RX3 18 3 0 := fa_X3_18.r
theorem fa_X3_22 : FA RX3 22 3 1 (.object "WishLamp$Terms") true := ⟨RX3, TX3, 4, tyX3, ciX3, by decide, tb_in (tt_1 156 rfl) rfl, rfl, rfl, (fun _ => rfl)⟩
theorem fr_X3_22 : FA0 RX3 22 3 1 := fa_X3_22.r
theorem fa_X3_9 : FA RX3 9 3 2 (.array .int) true := ⟨RX3, TX3, 4, tyX3, ciX3, by decide, tb_in (tt_1 157 rfl) rfl, rfl, rfl, (fun _ => rfl)⟩
theorem fr_X3_9 : FA0 RX3 9 3 2 := fa_X3_9.r
theorem fr_X6_215 : FA0 RX6 215 3 2 := ⟨RX3, TX3, 4, tyX3, ciX3, by decide, tb_in (tt_1 158 rfl) rfl⟩
theorem fa_X3_15 : FA RX3 15 3 3 (.array .int) true := ⟨RX3, TX3, 4, tyX3, ciX3, by decide, tb_in (tt_1 159 rfl) rfl, rfl, rfl, (fun _ => rfl)⟩
theorem fr_X3_15 : FA0 RX3 15 3 3 := fa_X3_15.r
theorem fa_X2_27 : FA RX2 27 2 0 (.object "WishLamp$State") true := ⟨RX2, TX2, 8, tyX2, ciX2, by decide, tb_in (tt_1 175 rfl) rfl, rfl, rfl, (fun _ => rfl)⟩
theorem fr_X2_27 : FA0 RX2 27 2 0 := fa_X2_27.r
theorem fa_X2_31 : FA RX2 31 2 1 (.object "WishLamp$Terms") true := ⟨RX2, TX2, 8, tyX2, ciX2, by decide, tb_in (tt_1 176 rfl) rfl, rfl, rfl, (fun _ => rfl)⟩
theorem fr_X2_31 : FA0 RX2 31 2 1 := fa_X2_31.r
theorem fa_X2_9 : FA RX2 9 2 2 (.array .int) true := ⟨RX2, TX2, 8, tyX2, ciX2, by decide, tb_in (tt_1 177 rfl) rfl, rfl, rfl, (fun _ => rfl)⟩
theorem fr_X2_9 : FA0 RX2 9 2 2 := fa_X2_9.r
theorem fr_X6_334 : FA0 RX6 334 2 2 := ⟨RX2, TX2, 8, tyX2, ciX2, by decide, tb_in (tt_1 178 rfl) rfl⟩
theorem fa_X2_15 : FA RX2 15 2 3 (.array .int) true := ⟨RX2, TX2, 8, tyX2, ciX2, by decide, tb_in (tt_1 179 rfl) rfl, rfl, rfl, (fun _ => rfl)⟩
theorem fr_X2_15 : FA0 RX2 15 2 3 := fa_X2_15.r
theorem fr_X6_331 : FA0 RX6 331 2 3 := ⟨RX2, TX2, 8, tyX2, ciX2, by decide, tb_in (tt_1 180 rfl) rfl⟩
theorem fa_X2_18 : FA RX2 18 2 4 (.array .int) true := ⟨RX2, TX2, 8, tyX2, ciX2, by decide, tb_in (tt_1 181 rfl) rfl, rfl, rfl, (fun _ => rfl)⟩
theorem fr_X2_18 : FA0 RX2 18 2 4 := fa_X2_18.r
theorem fa_X2_21 : FA RX2 21 2 5 (.array .int) true := ⟨RX2, TX2, 8, tyX2, ciX2, by decide, tb_in (tt_1 182 rfl) rfl, rfl, rfl, (fun _ => rfl)⟩
theorem fr_X2_21 : FA0 RX2 21 2 5 := fa_X2_21.r
theorem fa_X2_24 : FA RX2 24 2 6 (.array .int) true := ⟨RX2, TX2, 8, tyX2, ciX2, by decide, tb_in (tt_1 183 rfl) rfl, rfl, rfl, (fun _ => rfl)⟩
theorem fr_X2_24 : FA0 RX2 24 2 6 := fa_X2_24.r
theorem fa_X2_59 : FA RX2 59 2 7 (.int) false := ⟨RX2, TX2, 8, tyX2, ciX2, by decide, tb_in (tt_1 184 rfl) rfl, rfl, rfl, (fun h => by cases h)⟩
theorem fr_X2_59 : FA0 RX2 59 2 7 := fa_X2_59.r
theorem fa_X0_7 : FA RX0 7 0 0 (.boolean) false := ⟨RX0, TX0, 3, tyX0, ciX0, by decide, tb_in (tt_1 208 rfl) rfl, rfl, rfl, (fun h => by cases h)⟩
theorem fr_X0_7 : FA0 RX0 7 0 0 := fa_X0_7.r
theorem fa_X6_198 : FA RX6 198 0 0 (.boolean) false := ⟨RX0, TX0, 3, tyX0, ciX0, by decide, tb_in (tt_1 209 rfl) rfl, rfl, rfl, (fun h => by cases h)⟩
theorem fr_X6_198 : FA0 RX6 198 0 0 := fa_X6_198.r
theorem fa_X0_13 : FA RX0 13 0 1 (.int) false := ⟨RX0, TX0, 3, tyX0, ciX0, by decide, tb_in (tt_1 210 rfl) rfl, rfl, rfl, (fun h => by cases h)⟩
theorem fr_X0_13 : FA0 RX0 13 0 1 := fa_X0_13.r
theorem fa_X6_208 : FA RX6 208 0 1 (.int) false := ⟨RX0, TX0, 3, tyX0, ciX0, by decide, tb_in (tt_1 211 rfl) rfl, rfl, rfl, (fun h => by cases h)⟩
theorem fr_X6_208 : FA0 RX6 208 0 1 := fa_X6_208.r
theorem fa_X0_17 : FA RX0 17 0 2 (.int) false := ⟨RX0, TX0, 3, tyX0, ciX0, by decide, tb_in (tt_1 212 rfl) rfl, rfl, rfl, (fun h => by cases h)⟩
theorem fr_X0_17 : FA0 RX0 17 0 2 := fa_X0_17.r
theorem fa_X6_202 : FA RX6 202 0 2 (.int) false := ⟨RX0, TX0, 3, tyX0, ciX0, by decide, tb_in (tt_1 213 rfl) rfl, rfl, rfl, (fun h => by cases h)⟩
theorem fr_X6_202 : FA0 RX6 202 0 2 := fa_X6_202.r
theorem fa_X6_10 : FA RX6 10 6 0 (.object "WishLamp$State") true := ⟨RX6, TX6, 10, tyX6, ciX6, by decide, tb_in (tt_2 7 rfl) rfl, rfl, rfl, (fun _ => rfl)⟩
theorem fr_X6_10 : FA0 RX6 10 6 0 := fa_X6_10.r
theorem fa_X6_16 : FA RX6 16 6 1 (.array (.object "WishLamp$State")) true := ⟨RX6, TX6, 10, tyX6, ciX6, by decide, tb_in (tt_2 8 rfl) rfl, rfl, rfl, (fun _ => rfl)⟩
theorem fr_X6_16 : FA0 RX6 16 6 1 := fa_X6_16.r
theorem fa_X6_23 : FA RX6 23 6 2 (.object "WishLamp$Clause") true := ⟨RX6, TX6, 10, tyX6, ciX6, by decide, tb_in (tt_2 9 rfl) rfl, rfl, rfl, (fun _ => rfl)⟩
theorem fr_X6_23 : FA0 RX6 23 6 2 := fa_X6_23.r
theorem fa_X6_27 : FA RX6 27 6 3 (.object "WishLamp$Clause") true := ⟨RX6, TX6, 10, tyX6, ciX6, by decide, tb_in (tt_2 10 rfl) rfl, rfl, rfl, (fun _ => rfl)⟩
theorem fr_X6_27 : FA0 RX6 27 6 3 := fa_X6_27.r
theorem fa_X6_33 : FA RX6 33 6 4 (.object "WishLamp$Terms") true := ⟨RX6, TX6, 10, tyX6, ciX6, by decide, tb_in (tt_2 11 rfl) rfl, rfl, rfl, (fun _ => rfl)⟩
theorem fr_X6_33 : FA0 RX6 33 6 4 := fa_X6_33.r
theorem fa_X6_42 : FA RX6 42 6 5 (.object "WishLamp$Spirit") true := ⟨RX6, TX6, 10, tyX6, ciX6, by decide, tb_in (tt_2 12 rfl) rfl, rfl, rfl, (fun _ => rfl)⟩
theorem fr_X6_42 : FA0 RX6 42 6 5 := fa_X6_42.r
theorem fa_X6_49 : FA RX6 49 6 6 (.object "WishLamp$Draw") true := ⟨RX6, TX6, 10, tyX6, ciX6, by decide, tb_in (tt_2 13 rfl) rfl, rfl, rfl, (fun _ => rfl)⟩
theorem fr_X6_49 : FA0 RX6 49 6 6 := fa_X6_49.r
theorem fa_X6_56 : FA RX6 56 6 7 (.object "WishLamp$Best") true := ⟨RX6, TX6, 10, tyX6, ciX6, by decide, tb_in (tt_2 14 rfl) rfl, rfl, rfl, (fun _ => rfl)⟩
theorem fr_X6_56 : FA0 RX6 56 6 7 := fa_X6_56.r
theorem fa_X6_60 : FA RX6 60 6 8 (.array .int) true := ⟨RX6, TX6, 10, tyX6, ciX6, by decide, tb_in (tt_2 15 rfl) rfl, rfl, rfl, (fun _ => rfl)⟩
theorem fr_X6_60 : FA0 RX6 60 6 8 := fa_X6_60.r
theorem fa_X6_64 : FA RX6 64 6 9 (.array .int) true := ⟨RX6, TX6, 10, tyX6, ciX6, by decide, tb_in (tt_2 16 rfl) rfl, rfl, rfl, (fun _ => rfl)⟩
theorem fr_X6_64 : FA0 RX6 64 6 9 := fa_X6_64.r
theorem fa_X7_7 : FA RX7 7 7 0 (.int) false := ⟨RX7, TX7, 29, tyX7, ciX7, by decide, tb_in (tt_3 229 rfl) rfl, rfl, rfl, (fun h => by cases h)⟩
theorem fr_X7_7 : FA0 RX7 7 7 0 := fa_X7_7.r
theorem fa_X7_13 : FA RX7 13 7 1 (.array .int) true := ⟨RX7, TX7, 29, tyX7, ciX7, by decide, tb_in (tt_3 230 rfl) rfl, rfl, rfl, (fun _ => rfl)⟩
theorem fr_X7_13 : FA0 RX7 13 7 1 := fa_X7_13.r
theorem fa_X7_17 : FA RX7 17 7 2 (.array .int) true := ⟨RX7, TX7, 29, tyX7, ciX7, by decide, tb_in (tt_3 231 rfl) rfl, rfl, rfl, (fun _ => rfl)⟩
theorem fr_X7_17 : FA0 RX7 17 7 2 := fa_X7_17.r
theorem fa_X7_20 : FA RX7 20 7 3 (.array .int) true := ⟨RX7, TX7, 29, tyX7, ciX7, by decide, tb_in (tt_3 232 rfl) rfl, rfl, rfl, (fun _ => rfl)⟩
theorem fr_X7_20 : FA0 RX7 20 7 3 := fa_X7_20.r
theorem fa_X7_64 : FA RX7 64 7 4 (.int) false := ⟨RX7, TX7, 29, tyX7, ciX7, by decide, tb_in (tt_3 233 rfl) rfl, rfl, rfl, (fun h => by cases h)⟩
theorem fr_X7_64 : FA0 RX7 64 7 4 := fa_X7_64.r
theorem fa_X7_67 : FA RX7 67 7 5 (.int) false := ⟨RX7, TX7, 29, tyX7, ciX7, by decide, tb_in (tt_3 234 rfl) rfl, rfl, rfl, (fun h => by cases h)⟩
theorem fr_X7_67 : FA0 RX7 67 7 5 := fa_X7_67.r
theorem fa_X7_70 : FA RX7 70 7 6 (.int) false := ⟨RX7, TX7, 29, tyX7, ciX7, by decide, tb_in (tt_3 235 rfl) rfl, rfl, rfl, (fun h => by cases h)⟩
theorem fr_X7_70 : FA0 RX7 70 7 6 := fa_X7_70.r
theorem fa_X7_73 : FA RX7 73 7 7 (.int) false := ⟨RX7, TX7, 29, tyX7, ciX7, by decide, tb_in (tt_3 236 rfl) rfl, rfl, rfl, (fun h => by cases h)⟩
theorem fr_X7_73 : FA0 RX7 73 7 7 := fa_X7_73.r
theorem fa_X7_80 : FA RX7 80 7 8 (.long) false := ⟨RX7, TX7, 29, tyX7, ciX7, by decide, tb_in (tt_3 237 rfl) rfl, rfl, rfl, (fun h => by cases h)⟩
theorem fr_X7_80 : FA0 RX7 80 7 8 := fa_X7_80.r
theorem fa_X7_84 : FA RX7 84 7 9 (.int) false := ⟨RX7, TX7, 29, tyX7, ciX7, by decide, tb_in (tt_3 238 rfl) rfl, rfl, rfl, (fun h => by cases h)⟩
theorem fr_X7_84 : FA0 RX7 84 7 9 := fa_X7_84.r
theorem fa_X7_23 : FA RX7 23 7 10 (.array .int) true := ⟨RX7, TX7, 29, tyX7, ciX7, by decide, tb_in (tt_3 239 rfl) rfl, rfl, rfl, (fun _ => rfl)⟩
theorem fr_X7_23 : FA0 RX7 23 7 10 := fa_X7_23.r
theorem fa_X7_87 : FA RX7 87 7 11 (.int) false := ⟨RX7, TX7, 29, tyX7, ciX7, by decide, tb_in (tt_4 0 rfl) rfl, rfl, rfl, (fun h => by cases h)⟩
theorem fr_X7_87 : FA0 RX7 87 7 11 := fa_X7_87.r
theorem fa_X7_26 : FA RX7 26 7 12 (.array .long) true := ⟨RX7, TX7, 29, tyX7, ciX7, by decide, tb_in (tt_4 1 rfl) rfl, rfl, rfl, (fun _ => rfl)⟩
theorem fr_X7_26 : FA0 RX7 26 7 12 := fa_X7_26.r
theorem fa_X7_30 : FA RX7 30 7 13 (.array .int) true := ⟨RX7, TX7, 29, tyX7, ciX7, by decide, tb_in (tt_4 2 rfl) rfl, rfl, rfl, (fun _ => rfl)⟩
theorem fr_X7_30 : FA0 RX7 30 7 13 := fa_X7_30.r
theorem fa_X7_90 : FA RX7 90 7 14 (.int) false := ⟨RX7, TX7, 29, tyX7, ciX7, by decide, tb_in (tt_4 3 rfl) rfl, rfl, rfl, (fun h => by cases h)⟩
theorem fr_X7_90 : FA0 RX7 90 7 14 := fa_X7_90.r
theorem fa_X7_33 : FA RX7 33 7 15 (.array .int) true := ⟨RX7, TX7, 29, tyX7, ciX7, by decide, tb_in (tt_4 4 rfl) rfl, rfl, rfl, (fun _ => rfl)⟩
theorem fr_X7_33 : FA0 RX7 33 7 15 := fa_X7_33.r
theorem fa_X7_121 : FA RX7 121 7 16 (.int) false := ⟨RX7, TX7, 29, tyX7, ciX7, by decide, tb_in (tt_4 5 rfl) rfl, rfl, rfl, (fun h => by cases h)⟩
theorem fr_X7_121 : FA0 RX7 121 7 16 := fa_X7_121.r
theorem fa_X7_36 : FA RX7 36 7 17 (.array .int) true := ⟨RX7, TX7, 29, tyX7, ciX7, by decide, tb_in (tt_4 6 rfl) rfl, rfl, rfl, (fun _ => rfl)⟩
theorem fr_X7_36 : FA0 RX7 36 7 17 := fa_X7_36.r
theorem fa_X7_133 : FA RX7 133 7 18 (.int) false := ⟨RX7, TX7, 29, tyX7, ciX7, by decide, tb_in (tt_4 7 rfl) rfl, rfl, rfl, (fun h => by cases h)⟩
theorem fr_X7_133 : FA0 RX7 133 7 18 := fa_X7_133.r
theorem fa_X7_39 : FA RX7 39 7 19 (.array .int) true := ⟨RX7, TX7, 29, tyX7, ciX7, by decide, tb_in (tt_4 8 rfl) rfl, rfl, rfl, (fun _ => rfl)⟩
theorem fr_X7_39 : FA0 RX7 39 7 19 := fa_X7_39.r
theorem fa_X7_42 : FA RX7 42 7 20 (.array .boolean) true := ⟨RX7, TX7, 29, tyX7, ciX7, by decide, tb_in (tt_4 9 rfl) rfl, rfl, rfl, (fun _ => rfl)⟩
theorem fr_X7_42 : FA0 RX7 42 7 20 := fa_X7_42.r
theorem fa_X7_184 : FA RX7 184 7 21 (.int) false := ⟨RX7, TX7, 29, tyX7, ciX7, by decide, tb_in (tt_4 10 rfl) rfl, rfl, rfl, (fun h => by cases h)⟩
theorem fr_X7_184 : FA0 RX7 184 7 21 := fa_X7_184.r
theorem fa_X7_187 : FA RX7 187 7 22 (.int) false := ⟨RX7, TX7, 29, tyX7, ciX7, by decide, tb_in (tt_4 11 rfl) rfl, rfl, rfl, (fun h => by cases h)⟩
theorem fr_X7_187 : FA0 RX7 187 7 22 := fa_X7_187.r
theorem fa_X7_46 : FA RX7 46 7 23 (.array .int) true := ⟨RX7, TX7, 29, tyX7, ciX7, by decide, tb_in (tt_4 12 rfl) rfl, rfl, rfl, (fun _ => rfl)⟩
theorem fr_X7_46 : FA0 RX7 46 7 23 := fa_X7_46.r
theorem fa_X7_49 : FA RX7 49 7 24 (.array .int) true := ⟨RX7, TX7, 29, tyX7, ciX7, by decide, tb_in (tt_4 13 rfl) rfl, rfl, rfl, (fun _ => rfl)⟩
theorem fr_X7_49 : FA0 RX7 49 7 24 := fa_X7_49.r
theorem fa_X7_210 : FA RX7 210 7 25 (.int) false := ⟨RX7, TX7, 29, tyX7, ciX7, by decide, tb_in (tt_4 14 rfl) rfl, rfl, rfl, (fun h => by cases h)⟩
theorem fr_X7_210 : FA0 RX7 210 7 25 := fa_X7_210.r
theorem fa_X7_52 : FA RX7 52 7 26 (.array .int) true := ⟨RX7, TX7, 29, tyX7, ciX7, by decide, tb_in (tt_4 15 rfl) rfl, rfl, rfl, (fun _ => rfl)⟩
theorem fr_X7_52 : FA0 RX7 52 7 26 := fa_X7_52.r
theorem fa_X7_55 : FA RX7 55 7 27 (.array .long) true := ⟨RX7, TX7, 29, tyX7, ciX7, by decide, tb_in (tt_4 16 rfl) rfl, rfl, rfl, (fun _ => rfl)⟩
theorem fr_X7_55 : FA0 RX7 55 7 27 := fa_X7_55.r
theorem fa_X7_58 : FA RX7 58 7 28 (.array .boolean) true := ⟨RX7, TX7, 29, tyX7, ciX7, by decide, tb_in (tt_4 17 rfl) rfl, rfl, rfl, (fun _ => rfl)⟩
theorem fr_X7_58 : FA0 RX7 58 7 28 := fa_X7_58.r
abbrev mX6_init : Mt := (yX6_init, cX6_init, 1, none)
theorem cb_X6_init : CB mX6_init 0 := ⟨tb_in (tt_1 16 rfl) rfl, tb_in (tt_1 1 rfl) rfl, ⟨by decide +kernel, by decide +kernel, by decide +kernel⟩, by decide +kernel⟩
abbrev mX4_init : Mt := (yX4_init, cX4_init, 1, none)
theorem cb_X4_init : CB mX4_init 0 := ⟨tb_in (tt_1 24 rfl) rfl, tb_in (tt_1 2 rfl) rfl, ⟨by decide +kernel, by decide +kernel, by decide +kernel⟩, by decide +kernel⟩
abbrev mX1_init : Mt := (yX1_init, cX1_init, 1, none)
theorem cb_X1_init : CB mX1_init 0 := ⟨tb_in (tt_1 109 rfl) rfl, tb_in (tt_1 3 rfl) rfl, ⟨by decide +kernel, by decide +kernel, by decide +kernel⟩, by decide +kernel⟩
abbrev mX5_init : Mt := (yX5_init, cX5_init, 1, none)
theorem cb_X5_init : CB mX5_init 0 := ⟨tb_in (tt_1 127 rfl) rfl, tb_in (tt_1 4 rfl) rfl, ⟨by decide +kernel, by decide +kernel, by decide +kernel⟩, by decide +kernel⟩
abbrev mX3_init : Mt := (yX3_init, cX3_init, 3, none)
theorem cb_X3_init : CB mX3_init 2 := ⟨tb_in (tt_1 153 rfl) rfl, tb_in (tt_1 5 rfl) rfl, ⟨by decide +kernel, by decide +kernel, by decide +kernel⟩, by decide +kernel⟩
abbrev mX2_init : Mt := (yX2_init, cX2_init, 3, none)
theorem cb_X2_init : CB mX2_init 2 := ⟨tb_in (tt_1 173 rfl) rfl, tb_in (tt_1 6 rfl) rfl, ⟨by decide +kernel, by decide +kernel, by decide +kernel⟩, by decide +kernel⟩
abbrev mX0_init : Mt := (yX0_init, cX0_init, 1, none)
theorem cb_X0_init : CB mX0_init 0 := ⟨tb_in (tt_1 206 rfl) rfl, tb_in (tt_1 7 rfl) rfl, ⟨by decide +kernel, by decide +kernel, by decide +kernel⟩, by decide +kernel⟩
abbrev mX4_begin : Mt := (yX4_begin, cX4_begin, 3, none)
theorem cb_X4_begin : CB mX4_begin 1 := ⟨tb_in (tt_1 224 rfl) rfl, tb_in (tt_1 2 rfl) rfl, ⟨by decide +kernel, by decide +kernel, by decide +kernel⟩, by decide +kernel⟩
abbrev mX4_allWorlds : Mt := (yX4_allWorlds, cX4_allWorlds, 1, (some .long))
theorem cb_X4_allWorlds : CB mX4_allWorlds 0 := ⟨tb_in (tt_1 228 rfl) rfl, tb_in (tt_1 2 rfl) rfl, ⟨by decide +kernel, by decide +kernel, by decide +kernel⟩, by decide +kernel⟩
abbrev mX4_worldCount : Mt := (yX4_worldCount, cX4_worldCount, 1, (some .int))
theorem cb_X4_worldCount : CB mX4_worldCount 0 := ⟨tb_in (tt_1 233 rfl) rfl, tb_in (tt_1 2 rfl) rfl, ⟨by decide +kernel, by decide +kernel, by decide +kernel⟩, by decide +kernel⟩
abbrev mX4_forgetSights : Mt := (yX4_forgetSights, cX4_forgetSights, 2, none)
theorem cb_X4_forgetSights : CB mX4_forgetSights 0 := ⟨tb_in (tt_1 237 rfl) rfl, tb_in (tt_1 2 rfl) rfl, ⟨by decide +kernel, by decide +kernel, by decide +kernel⟩, by decide +kernel⟩
abbrev mX5_listFor : Mt := (yX5_listFor, cX5_listFor, 6, none)
theorem cb_X5_listFor : CB mX5_listFor 1 := ⟨tb_in (tt_2 1 rfl) rfl, tb_in (tt_1 4 rfl) rfl, ⟨by decide +kernel, by decide +kernel, by decide +kernel⟩, by decide +kernel⟩
abbrev mX6_things : Mt := (yX6_things, cX6_things, 3, (some .int))
theorem cb_X6_things : CB mX6_things 1 := ⟨tb_in (tt_2 41 rfl) rfl, tb_in (tt_1 1 rfl) rfl, ⟨by decide +kernel, by decide +kernel, by decide +kernel⟩, by decide +kernel⟩
abbrev mX6_worth : Mt := (yX6_worth, cX6_worth, 6, (some .int))
theorem cb_X6_worth : CB mX6_worth 3 := ⟨tb_in (tt_2 45 rfl) rfl, tb_in (tt_1 1 rfl) rfl, ⟨by decide +kernel, by decide +kernel, by decide +kernel⟩, by decide +kernel⟩
abbrev mX6_isCousin : Mt := (yX6_isCousin, cX6_isCousin, 1, (some .boolean))
theorem cb_X6_isCousin : CB mX6_isCousin 1 := ⟨tb_in (tt_2 48 rfl) rfl, tb_in (tt_1 1 rfl) rfl, ⟨by decide +kernel, by decide +kernel, by decide +kernel⟩, by decide +kernel⟩
abbrev mX6_isThing : Mt := (yX6_isThing, cX6_isThing, 2, (some .boolean))
theorem cb_X6_isThing : CB mX6_isThing 1 := ⟨tb_in (tt_2 52 rfl) rfl, tb_in (tt_1 1 rfl) rfl, ⟨by decide +kernel, by decide +kernel, by decide +kernel⟩, by decide +kernel⟩
abbrev mX6_taste : Mt := (yX6_taste, cX6_taste, 4, (some .int))
theorem cb_X6_taste : CB mX6_taste 2 := ⟨tb_in (tt_2 56 rfl) rfl, tb_in (tt_1 1 rfl) rfl, ⟨by decide +kernel, by decide +kernel, by decide +kernel⟩, by decide +kernel⟩
abbrev mX6_set : Mt := (yX6_set, cX6_set, 4, (some .int))
theorem cb_X6_set : CB mX6_set 2 := ⟨tb_in (tt_2 60 rfl) rfl, tb_in (tt_1 1 rfl) rfl, ⟨by decide +kernel, by decide +kernel, by decide +kernel⟩, by decide +kernel⟩
abbrev mX6_now : Mt := (yX6_now, cX6_now, 3, (some .int))
theorem cb_X6_now : CB mX6_now 1 := ⟨tb_in (tt_2 64 rfl) rfl, tb_in (tt_1 1 rfl) rfl, ⟨by decide +kernel, by decide +kernel, by decide +kernel⟩, by decide +kernel⟩
abbrev mX6_isWorld : Mt := (yX6_isWorld, cX6_isWorld, 2, (some .boolean))
theorem cb_X6_isWorld : CB mX6_isWorld 1 := ⟨tb_in (tt_2 68 rfl) rfl, tb_in (tt_1 1 rfl) rfl, ⟨by decide +kernel, by decide +kernel, by decide +kernel⟩, by decide +kernel⟩
abbrev mX6_worthOf : Mt := (yX6_worthOf, cX6_worthOf, 3, (some .int))
theorem cb_X6_worthOf : CB mX6_worthOf 2 := ⟨tb_in (tt_2 73 rfl) rfl, tb_in (tt_1 1 rfl) rfl, ⟨by decide +kernel, by decide +kernel, by decide +kernel⟩, by decide +kernel⟩
abbrev mX4_worthTo : Mt := (yX4_worthTo, cX4_worthTo, 5, (some .int))
theorem cb_X4_worthTo : CB mX4_worthTo 2 := ⟨tb_in (tt_2 77 rfl) rfl, tb_in (tt_1 2 rfl) rfl, ⟨by decide +kernel, by decide +kernel, by decide +kernel⟩, by decide +kernel⟩
abbrev mX6_say : Mt := (yX6_say, cX6_say, 2, (some .int))
theorem cb_X6_say : CB mX6_say 1 := ⟨tb_in (tt_2 81 rfl) rfl, tb_in (tt_1 1 rfl) rfl, ⟨by decide +kernel, by decide +kernel, by decide +kernel⟩, by decide +kernel⟩
abbrev mX1_write : Mt := (yX1_write, cX1_write, 2, (some .boolean))
theorem cb_X1_write : CB mX1_write 1 := ⟨tb_in (tt_2 85 rfl) rfl, tb_in (tt_1 3 rfl) rfl, ⟨by decide +kernel, by decide +kernel, by decide +kernel⟩, by decide +kernel⟩
abbrev mX6_wipe : Mt := (yX6_wipe, cX6_wipe, 1, (some .int))
theorem cb_X6_wipe : CB mX6_wipe 0 := ⟨tb_in (tt_2 89 rfl) rfl, tb_in (tt_1 1 rfl) rfl, ⟨by decide +kernel, by decide +kernel, by decide +kernel⟩, by decide +kernel⟩
abbrev mX1_clear : Mt := (yX1_clear, cX1_clear, 2, (some .int))
theorem cb_X1_clear : CB mX1_clear 0 := ⟨tb_in (tt_2 93 rfl) rfl, tb_in (tt_1 3 rfl) rfl, ⟨by decide +kernel, by decide +kernel, by decide +kernel⟩, by decide +kernel⟩
abbrev mX6_fault : Mt := (yX6_fault, cX6_fault, 1, (some .int))
theorem cb_X6_fault : CB mX6_fault 0 := ⟨tb_in (tt_2 97 rfl) rfl, tb_in (tt_1 1 rfl) rfl, ⟨by decide +kernel, by decide +kernel, by decide +kernel⟩, by decide +kernel⟩
abbrev mX1_firstFault : Mt := (yX1_firstFault, cX1_firstFault, 7, (some .int))
theorem cb_X1_firstFault : CB mX1_firstFault 1 := ⟨tb_in (tt_2 101 rfl) rfl, tb_in (tt_1 3 rfl) rfl, ⟨by decide +kernel, by decide +kernel, by decide +kernel⟩, by decide +kernel⟩
abbrev mX6_orderOf : Mt := (yX6_orderOf, cX6_orderOf, 2, (some .int))
theorem cb_X6_orderOf : CB mX6_orderOf 1 := ⟨tb_in (tt_2 104 rfl) rfl, tb_in (tt_1 1 rfl) rfl, ⟨by decide +kernel, by decide +kernel, by decide +kernel⟩, by decide +kernel⟩
abbrev mX6_enact : Mt := (yX6_enact, cX6_enact, 1, (some .int))
theorem cb_X6_enact : CB mX6_enact 0 := ⟨tb_in (tt_2 110 rfl) rfl, tb_in (tt_1 1 rfl) rfl, ⟨by decide +kernel, by decide +kernel, by decide +kernel⟩, by decide +kernel⟩
abbrev mX6_isFaulty : Mt := (yX6_isFaulty, cX6_isFaulty, 1, (some .boolean))
theorem cb_X6_isFaulty : CB mX6_isFaulty 0 := ⟨tb_in (tt_2 114 rfl) rfl, tb_in (tt_1 1 rfl) rfl, ⟨by decide +kernel, by decide +kernel, by decide +kernel⟩, by decide +kernel⟩
abbrev mX1_worldsFrom : Mt := (yX1_worldsFrom, cX1_worldsFrom, 6, (some .long))
theorem cb_X1_worldsFrom : CB mX1_worldsFrom 1 := ⟨tb_in (tt_2 118 rfl) rfl, tb_in (tt_1 3 rfl) rfl, ⟨by decide +kernel, by decide +kernel, by decide +kernel⟩, by decide +kernel⟩
abbrev mX1_joined : Mt := (yX1_joined, cX1_joined, 5, (some .long))
theorem cb_X1_joined : CB mX1_joined 3 := ⟨tb_in (tt_2 121 rfl) rfl, tb_in (tt_1 3 rfl) rfl, ⟨by decide +kernel, by decide +kernel, by decide +kernel⟩, by decide +kernel⟩
abbrev mX1_isSoAt : Mt := (yX1_isSoAt, cX1_isSoAt, 4, (some .boolean))
theorem cb_X1_isSoAt : CB mX1_isSoAt 2 := ⟨tb_in (tt_2 126 rfl) rfl, tb_in (tt_1 3 rfl) rfl, ⟨by decide +kernel, by decide +kernel, by decide +kernel⟩, by decide +kernel⟩
abbrev mX1_leafWorlds : Mt := (yX1_leafWorlds, cX1_leafWorlds, 2, (some .long))
theorem cb_X1_leafWorlds : CB mX1_leafWorlds 1 := ⟨tb_in (tt_2 129 rfl) rfl, tb_in (tt_1 3 rfl) rfl, ⟨by decide +kernel, by decide +kernel, by decide +kernel⟩, by decide +kernel⟩
abbrev mX6_kept : Mt := (yX6_kept, cX6_kept, 8, (some .int))
theorem cb_X6_kept : CB mX6_kept 1 := ⟨tb_in (tt_2 135 rfl) rfl, tb_in (tt_1 1 rfl) rfl, ⟨by decide +kernel, by decide +kernel, by decide +kernel⟩, by decide +kernel⟩
abbrev mX6_wishWorlds : Mt := (yX6_wishWorlds, cX6_wishWorlds, 1, (some .long))
theorem cb_X6_wishWorlds : CB mX6_wishWorlds 0 := ⟨tb_in (tt_2 139 rfl) rfl, tb_in (tt_1 1 rfl) rfl, ⟨by decide +kernel, by decide +kernel, by decide +kernel⟩, by decide +kernel⟩
abbrev mX1_saidThings : Mt := (yX1_saidThings, cX1_saidThings, 4, (some .int))
theorem cb_X1_saidThings : CB mX1_saidThings 0 := ⟨tb_in (tt_2 143 rfl) rfl, tb_in (tt_1 3 rfl) rfl, ⟨by decide +kernel, by decide +kernel, by decide +kernel⟩, by decide +kernel⟩
abbrev mX4_stillWorlds : Mt := (yX4_stillWorlds, cX4_stillWorlds, 6, (some .long))
theorem cb_X4_stillWorlds : CB mX4_stillWorlds 2 := ⟨tb_in (tt_2 147 rfl) rfl, tb_in (tt_1 2 rfl) rfl, ⟨by decide +kernel, by decide +kernel, by decide +kernel⟩, by decide +kernel⟩
abbrev mJ6_bitCount_0f7a4 : Mt := (yJ6_bitCount_0f7a4, cJ6_bitCount_0f7a4, 1, (some .int))
theorem cb_J6_bitCount_0f7a4 : CB mJ6_bitCount_0f7a4 1 := ⟨tb_in (tt_2 150 rfl) rfl, tb_in (tt_1 9 rfl) rfl, ⟨by decide +kernel, by decide +kernel, by decide +kernel⟩, by decide +kernel⟩
abbrev mJ13_bitCount_95d88 : Mt := (yJ13_bitCount_95d88, cJ13_bitCount_95d88, 2, (some .int))
theorem cb_J13_bitCount_95d88 : CB mJ13_bitCount_95d88 1 := ⟨tb_in (tt_2 156 rfl) rfl, tb_in (tt_1 10 rfl) rfl, ⟨by decide +kernel, by decide +kernel, by decide +kernel⟩, by decide +kernel⟩
abbrev mX6_lowestOf : Mt := (yX6_lowestOf, cX6_lowestOf, 2, (some .int))
theorem cb_X6_lowestOf : CB mX6_lowestOf 1 := ⟨tb_in (tt_2 162 rfl) rfl, tb_in (tt_1 1 rfl) rfl, ⟨by decide +kernel, by decide +kernel, by decide +kernel⟩, by decide +kernel⟩
abbrev mX6_makes : Mt := (yX6_makes, cX6_makes, 1, (some .int))
theorem cb_X6_makes : CB mX6_makes 0 := ⟨tb_in (tt_2 166 rfl) rfl, tb_in (tt_1 1 rfl) rfl, ⟨by decide +kernel, by decide +kernel, by decide +kernel⟩, by decide +kernel⟩
abbrev mX6_wishOutcome : Mt := (yX6_wishOutcome, cX6_wishOutcome, 1, (some .int))
theorem cb_X6_wishOutcome : CB mX6_wishOutcome 0 := ⟨tb_in (tt_2 170 rfl) rfl, tb_in (tt_1 1 rfl) rfl, ⟨by decide +kernel, by decide +kernel, by decide +kernel⟩, by decide +kernel⟩
abbrev mX3_ready : Mt := (yX3_ready, cX3_ready, 1, none)
theorem cb_X3_ready : CB mX3_ready 0 := ⟨tb_in (tt_2 174 rfl) rfl, tb_in (tt_1 5 rfl) rfl, ⟨by decide +kernel, by decide +kernel, by decide +kernel⟩, by decide +kernel⟩
abbrev mX6_fillSums : Mt := (yX6_fillSums, cX6_fillSums, 6, none)
theorem cb_X6_fillSums : CB mX6_fillSums 4 := ⟨tb_in (tt_2 177 rfl) rfl, tb_in (tt_1 1 rfl) rfl, ⟨by decide +kernel, by decide +kernel, by decide +kernel⟩, by decide +kernel⟩
abbrev mX3_outcome : Mt := (yX3_outcome, cX3_outcome, 4, (some .int))
theorem cb_X3_outcome : CB mX3_outcome 2 := ⟨tb_in (tt_2 185 rfl) rfl, tb_in (tt_1 5 rfl) rfl, ⟨by decide +kernel, by decide +kernel, by decide +kernel⟩, by decide +kernel⟩
abbrev mX6_leastOf : Mt := (yX6_leastOf, cX6_leastOf, 12, (some .int))
theorem cb_X6_leastOf : CB mX6_leastOf 4 := ⟨tb_in (tt_2 188 rfl) rfl, tb_in (tt_1 1 rfl) rfl, ⟨by decide +kernel, by decide +kernel, by decide +kernel⟩, by decide +kernel⟩
abbrev mX6_extreme : Mt := (yX6_extreme, cX6_extreme, 7, (some .int))
theorem cb_X6_extreme : CB mX6_extreme 3 := ⟨tb_in (tt_2 192 rfl) rfl, tb_in (tt_1 1 rfl) rfl, ⟨by decide +kernel, by decide +kernel, by decide +kernel⟩, by decide +kernel⟩
abbrev mX6_isBit : Mt := (yX6_isBit, cX6_isBit, 1, (some .boolean))
theorem cb_X6_isBit : CB mX6_isBit 1 := ⟨tb_in (tt_2 195 rfl) rfl, tb_in (tt_1 1 rfl) rfl, ⟨by decide +kernel, by decide +kernel, by decide +kernel⟩, by decide +kernel⟩
abbrev mX6_refusalOf : Mt := (yX6_refusalOf, cX6_refusalOf, 3, (some .int))
theorem cb_X6_refusalOf : CB mX6_refusalOf 2 := ⟨tb_in (tt_2 199 rfl) rfl, tb_in (tt_1 1 rfl) rfl, ⟨by decide +kernel, by decide +kernel, by decide +kernel⟩, by decide +kernel⟩
abbrev mX6_harmed : Mt := (yX6_harmed, cX6_harmed, 4, (some .int))
theorem cb_X6_harmed : CB mX6_harmed 0 := ⟨tb_in (tt_2 205 rfl) rfl, tb_in (tt_1 1 rfl) rfl, ⟨by decide +kernel, by decide +kernel, by decide +kernel⟩, by decide +kernel⟩
abbrev mX6_gainOf : Mt := (yX6_gainOf, cX6_gainOf, 3, (some .int))
theorem cb_X6_gainOf : CB mX6_gainOf 2 := ⟨tb_in (tt_2 209 rfl) rfl, tb_in (tt_1 1 rfl) rfl, ⟨by decide +kernel, by decide +kernel, by decide +kernel⟩, by decide +kernel⟩
abbrev mX6_grant : Mt := (yX6_grant, cX6_grant, 2, (some .int))
theorem cb_X6_grant : CB mX6_grant 0 := ⟨tb_in (tt_2 213 rfl) rfl, tb_in (tt_1 1 rfl) rfl, ⟨by decide +kernel, by decide +kernel, by decide +kernel⟩, by decide +kernel⟩
abbrev mX4_remember : Mt := (yX4_remember, cX4_remember, 2, none)
theorem cb_X4_remember : CB mX4_remember 1 := ⟨tb_in (tt_2 217 rfl) rfl, tb_in (tt_1 2 rfl) rfl, ⟨by decide +kernel, by decide +kernel, by decide +kernel⟩, by decide +kernel⟩
abbrev mX6_undo : Mt := (yX6_undo, cX6_undo, 1, (some .int))
theorem cb_X6_undo : CB mX6_undo 0 := ⟨tb_in (tt_2 222 rfl) rfl, tb_in (tt_1 1 rfl) rfl, ⟨by decide +kernel, by decide +kernel, by decide +kernel⟩, by decide +kernel⟩
abbrev mX6_comma : Mt := (yX6_comma, cX6_comma, 5, (some .int))
theorem cb_X6_comma : CB mX6_comma 1 := ⟨tb_in (tt_2 226 rfl) rfl, tb_in (tt_1 1 rfl) rfl, ⟨by decide +kernel, by decide +kernel, by decide +kernel⟩, by decide +kernel⟩
abbrev mX0_clear : Mt := (yX0_clear, cX0_clear, 1, none)
theorem cb_X0_clear : CB mX0_clear 0 := ⟨tb_in (tt_2 230 rfl) rfl, tb_in (tt_1 7 rfl) rfl, ⟨by decide +kernel, by decide +kernel, by decide +kernel⟩, by decide +kernel⟩
abbrev mX6_tryPlace : Mt := (yX6_tryPlace, cX6_tryPlace, 5, none)
theorem cb_X6_tryPlace : CB mX6_tryPlace 2 := ⟨tb_in (tt_2 234 rfl) rfl, tb_in (tt_1 1 rfl) rfl, ⟨by decide +kernel, by decide +kernel, by decide +kernel⟩, by decide +kernel⟩
abbrev mX6_tryChange : Mt := (yX6_tryChange, cX6_tryChange, 6, none)
theorem cb_X6_tryChange : CB mX6_tryChange 3 := ⟨tb_in (tt_2 238 rfl) rfl, tb_in (tt_1 1 rfl) rfl, ⟨by decide +kernel, by decide +kernel, by decide +kernel⟩, by decide +kernel⟩
abbrev mX6_signPut : Mt := (yX6_signPut, cX6_signPut, 3, (some .int))
theorem cb_X6_signPut : CB mX6_signPut 2 := ⟨tb_in (tt_3 2 rfl) rfl, tb_in (tt_1 1 rfl) rfl, ⟨by decide +kernel, by decide +kernel, by decide +kernel⟩, by decide +kernel⟩
abbrev mX1_copyChanged : Mt := (yX1_copyChanged, cX1_copyChanged, 5, none)
theorem cb_X1_copyChanged : CB mX1_copyChanged 3 := ⟨tb_in (tt_3 6 rfl) rfl, tb_in (tt_1 3 rfl) rfl, ⟨by decide +kernel, by decide +kernel, by decide +kernel⟩, by decide +kernel⟩
abbrev mX0_offer : Mt := (yX0_offer, cX0_offer, 3, none)
theorem cb_X0_offer : CB mX0_offer 2 := ⟨tb_in (tt_3 11 rfl) rfl, tb_in (tt_1 7 rfl) rfl, ⟨by decide +kernel, by decide +kernel, by decide +kernel⟩, by decide +kernel⟩
abbrev mX6_term : Mt := (yX6_term, cX6_term, 2, (some .int))
theorem cb_X6_term : CB mX6_term 1 := ⟨tb_in (tt_3 16 rfl) rfl, tb_in (tt_1 1 rfl) rfl, ⟨by decide +kernel, by decide +kernel, by decide +kernel⟩, by decide +kernel⟩
abbrev mX3_ofTerm : Mt := (yX3_ofTerm, cX3_ofTerm, 3, (some .int))
theorem cb_X3_ofTerm : CB mX3_ofTerm 2 := ⟨tb_in (tt_3 20 rfl) rfl, tb_in (tt_1 5 rfl) rfl, ⟨by decide +kernel, by decide +kernel, by decide +kernel⟩, by decide +kernel⟩
abbrev mX3_termWorlds : Mt := (yX3_termWorlds, cX3_termWorlds, 7, (some .long))
theorem cb_X3_termWorlds : CB mX3_termWorlds 2 := ⟨tb_in (tt_3 24 rfl) rfl, tb_in (tt_1 5 rfl) rfl, ⟨by decide +kernel, by decide +kernel, by decide +kernel⟩, by decide +kernel⟩
abbrev mX3_movedBy : Mt := (yX3_movedBy, cX3_movedBy, 6, (some .long))
theorem cb_X3_movedBy : CB mX3_movedBy 2 := ⟨tb_in (tt_3 30 rfl) rfl, tb_in (tt_1 5 rfl) rfl, ⟨by decide +kernel, by decide +kernel, by decide +kernel⟩, by decide +kernel⟩
abbrev mX6_wording : Mt := (yX6_wording, cX6_wording, 5, (some .int))
theorem cb_X6_wording : CB mX6_wording 2 := ⟨tb_in (tt_3 37 rfl) rfl, tb_in (tt_1 1 rfl) rfl, ⟨by decide +kernel, by decide +kernel, by decide +kernel⟩, by decide +kernel⟩
abbrev mX5_rankOf : Mt := (yX5_rankOf, cX5_rankOf, 2, (some .int))
theorem cb_X5_rankOf : CB mX5_rankOf 1 := ⟨tb_in (tt_3 41 rfl) rfl, tb_in (tt_1 4 rfl) rfl, ⟨by decide +kernel, by decide +kernel, by decide +kernel⟩, by decide +kernel⟩
abbrev mX5_wordsOf : Mt := (yX5_wordsOf, cX5_wordsOf, 2, (some .int))
theorem cb_X5_wordsOf : CB mX5_wordsOf 1 := ⟨tb_in (tt_3 45 rfl) rfl, tb_in (tt_1 4 rfl) rfl, ⟨by decide +kernel, by decide +kernel, by decide +kernel⟩, by decide +kernel⟩
abbrev mX6_most : Mt := (yX6_most, cX6_most, 5, (some .int))
theorem cb_X6_most : CB mX6_most 2 := ⟨tb_in (tt_3 50 rfl) rfl, tb_in (tt_1 1 rfl) rfl, ⟨by decide +kernel, by decide +kernel, by decide +kernel⟩, by decide +kernel⟩
abbrev mX6_isWords : Mt := (yX6_isWords, cX6_isWords, 1, (some .boolean))
theorem cb_X6_isWords : CB mX6_isWords 1 := ⟨tb_in (tt_3 53 rfl) rfl, tb_in (tt_1 1 rfl) rfl, ⟨by decide +kernel, by decide +kernel, by decide +kernel⟩, by decide +kernel⟩
abbrev mX6_row : Mt := (yX6_row, cX6_row, 5, (some .int))
theorem cb_X6_row : CB mX6_row 3 := ⟨tb_in (tt_3 58 rfl) rfl, tb_in (tt_1 1 rfl) rfl, ⟨by decide +kernel, by decide +kernel, by decide +kernel⟩, by decide +kernel⟩
abbrev mX2_drawUp : Mt := (yX2_drawUp, cX2_drawUp, 7, none)
theorem cb_X2_drawUp : CB mX2_drawUp 3 := ⟨tb_in (tt_3 62 rfl) rfl, tb_in (tt_1 6 rfl) rfl, ⟨by decide +kernel, by decide +kernel, by decide +kernel⟩, by decide +kernel⟩
abbrev mX2_listStirs : Mt := (yX2_listStirs, cX2_listStirs, 3, none)
theorem cb_X2_listStirs : CB mX2_listStirs 1 := ⟨tb_in (tt_3 68 rfl) rfl, tb_in (tt_1 6 rfl) rfl, ⟨by decide +kernel, by decide +kernel, by decide +kernel⟩, by decide +kernel⟩
abbrev mX2_drawUpSaying : Mt := (yX2_drawUpSaying, cX2_drawUpSaying, 9, none)
theorem cb_X2_drawUpSaying : CB mX2_drawUpSaying 3 := ⟨tb_in (tt_3 72 rfl) rfl, tb_in (tt_1 6 rfl) rfl, ⟨by decide +kernel, by decide +kernel, by decide +kernel⟩, by decide +kernel⟩
abbrev mX2_worstNear : Mt := (yX2_worstNear, cX2_worstNear, 6, (some .int))
theorem cb_X2_worstNear : CB mX2_worstNear 2 := ⟨tb_in (tt_3 76 rfl) rfl, tb_in (tt_1 6 rfl) rfl, ⟨by decide +kernel, by decide +kernel, by decide +kernel⟩, by decide +kernel⟩
abbrev mX5_rankFor : Mt := (yX5_rankFor, cX5_rankFor, 3, (some .int))
theorem cb_X5_rankFor : CB mX5_rankFor 2 := ⟨tb_in (tt_3 80 rfl) rfl, tb_in (tt_1 4 rfl) rfl, ⟨by decide +kernel, by decide +kernel, by decide +kernel⟩, by decide +kernel⟩
abbrev mX2_isBetter : Mt := (yX2_isBetter, cX2_isBetter, 4, (some .boolean))
theorem cb_X2_isBetter : CB mX2_isBetter 4 := ⟨tb_in (tt_3 83 rfl) rfl, tb_in (tt_1 6 rfl) rfl, ⟨by decide +kernel, by decide +kernel, by decide +kernel⟩, by decide +kernel⟩
abbrev mX2_takePart : Mt := (yX2_takePart, cX2_takePart, 6, none)
theorem cb_X2_takePart : CB mX2_takePart 3 := ⟨tb_in (tt_3 87 rfl) rfl, tb_in (tt_1 6 rfl) rfl, ⟨by decide +kernel, by decide +kernel, by decide +kernel⟩, by decide +kernel⟩
abbrev mX6_follow : Mt := (yX6_follow, cX6_follow, 3, none)
theorem cb_X6_follow : CB mX6_follow 1 := ⟨tb_in (tt_3 92 rfl) rfl, tb_in (tt_1 1 rfl) rfl, ⟨by decide +kernel, by decide +kernel, by decide +kernel⟩, by decide +kernel⟩
abbrev mX6_firstOfRow : Mt := (yX6_firstOfRow, cX6_firstOfRow, 4, (some .int))
theorem cb_X6_firstOfRow : CB mX6_firstOfRow 2 := ⟨tb_in (tt_3 96 rfl) rfl, tb_in (tt_1 1 rfl) rfl, ⟨by decide +kernel, by decide +kernel, by decide +kernel⟩, by decide +kernel⟩
abbrev mX6_lamps : Mt := (yX6_lamps, cX6_lamps, 4, (some .int))
theorem cb_X6_lamps : CB mX6_lamps 3 := ⟨tb_in (tt_3 100 rfl) rfl, tb_in (tt_1 1 rfl) rfl, ⟨by decide +kernel, by decide +kernel, by decide +kernel⟩, by decide +kernel⟩
abbrev mX6_sixths : Mt := (yX6_sixths, cX6_sixths, 5, (some .int))
theorem cb_X6_sixths : CB mX6_sixths 4 := ⟨tb_in (tt_3 104 rfl) rfl, tb_in (tt_1 1 rfl) rfl, ⟨by decide +kernel, by decide +kernel, by decide +kernel⟩, by decide +kernel⟩
abbrev mX6_isShare : Mt := (yX6_isShare, cX6_isShare, 1, (some .boolean))
theorem cb_X6_isShare : CB mX6_isShare 1 := ⟨tb_in (tt_3 107 rfl) rfl, tb_in (tt_1 1 rfl) rfl, ⟨by decide +kernel, by decide +kernel, by decide +kernel⟩, by decide +kernel⟩
abbrev mX6_votes : Mt := (yX6_votes, cX6_votes, 2, (some .int))
theorem cb_X6_votes : CB mX6_votes 0 := ⟨tb_in (tt_3 111 rfl) rfl, tb_in (tt_1 1 rfl) rfl, ⟨by decide +kernel, by decide +kernel, by decide +kernel⟩, by decide +kernel⟩
abbrev mX6_votesFor : Mt := (yX6_votesFor, cX6_votesFor, 4, (some .int))
theorem cb_X6_votesFor : CB mX6_votesFor 1 := ⟨tb_in (tt_3 115 rfl) rfl, tb_in (tt_1 1 rfl) rfl, ⟨by decide +kernel, by decide +kernel, by decide +kernel⟩, by decide +kernel⟩
abbrev mX6_agreed : Mt := (yX6_agreed, cX6_agreed, 4, (some .int))
theorem cb_X6_agreed : CB mX6_agreed 1 := ⟨tb_in (tt_3 119 rfl) rfl, tb_in (tt_1 1 rfl) rfl, ⟨by decide +kernel, by decide +kernel, by decide +kernel⟩, by decide +kernel⟩
abbrev mX6_fillMerits : Mt := (yX6_fillMerits, cX6_fillMerits, 4, none)
theorem cb_X6_fillMerits : CB mX6_fillMerits 0 := ⟨tb_in (tt_3 123 rfl) rfl, tb_in (tt_1 1 rfl) rfl, ⟨by decide +kernel, by decide +kernel, by decide +kernel⟩, by decide +kernel⟩
abbrev mX6_paid : Mt := (yX6_paid, cX6_paid, 6, (some .int))
theorem cb_X6_paid : CB mX6_paid 0 := ⟨tb_in (tt_3 127 rfl) rfl, tb_in (tt_1 1 rfl) rfl, ⟨by decide +kernel, by decide +kernel, by decide +kernel⟩, by decide +kernel⟩
abbrev mX6_picked : Mt := (yX6_picked, cX6_picked, 5, (some .int))
theorem cb_X6_picked : CB mX6_picked 1 := ⟨tb_in (tt_3 131 rfl) rfl, tb_in (tt_1 1 rfl) rfl, ⟨by decide +kernel, by decide +kernel, by decide +kernel⟩, by decide +kernel⟩
abbrev mX4_canFit : Mt := (yX4_canFit, cX4_canFit, 2, (some .boolean))
theorem cb_X4_canFit : CB mX4_canFit 1 := ⟨tb_in (tt_3 135 rfl) rfl, tb_in (tt_1 2 rfl) rfl, ⟨by decide +kernel, by decide +kernel, by decide +kernel⟩, by decide +kernel⟩
abbrev mX5_tasteTakes : Mt := (yX5_tasteTakes, cX5_tasteTakes, 13, (some .boolean))
theorem cb_X5_tasteTakes : CB mX5_tasteTakes 3 := ⟨tb_in (tt_3 139 rfl) rfl, tb_in (tt_1 4 rfl) rfl, ⟨by decide +kernel, by decide +kernel, by decide +kernel⟩, by decide +kernel⟩
abbrev mX4_ruleOut : Mt := (yX4_ruleOut, cX4_ruleOut, 2, none)
theorem cb_X4_ruleOut : CB mX4_ruleOut 1 := ⟨tb_in (tt_3 145 rfl) rfl, tb_in (tt_1 2 rfl) rfl, ⟨by decide +kernel, by decide +kernel, by decide +kernel⟩, by decide +kernel⟩
abbrev mX6_fit : Mt := (yX6_fit, cX6_fit, 6, (some .int))
theorem cb_X6_fit : CB mX6_fit 1 := ⟨tb_in (tt_3 149 rfl) rfl, tb_in (tt_1 1 rfl) rfl, ⟨by decide +kernel, by decide +kernel, by decide +kernel⟩, by decide +kernel⟩
abbrev mX5_digitOf : Mt := (yX5_digitOf, cX5_digitOf, 3, (some .int))
theorem cb_X5_digitOf : CB mX5_digitOf 2 := ⟨tb_in (tt_3 153 rfl) rfl, tb_in (tt_1 4 rfl) rfl, ⟨by decide +kernel, by decide +kernel, by decide +kernel⟩, by decide +kernel⟩
abbrev mX6_came : Mt := (yX6_came, cX6_came, 4, (some .int))
theorem cb_X6_came : CB mX6_came 2 := ⟨tb_in (tt_3 157 rfl) rfl, tb_in (tt_1 1 rfl) rfl, ⟨by decide +kernel, by decide +kernel, by decide +kernel⟩, by decide +kernel⟩
abbrev mX6_letters : Mt := (yX6_letters, cX6_letters, 4, (some .int))
theorem cb_X6_letters : CB mX6_letters 1 := ⟨tb_in (tt_3 161 rfl) rfl, tb_in (tt_1 1 rfl) rfl, ⟨by decide +kernel, by decide +kernel, by decide +kernel⟩, by decide +kernel⟩
abbrev mX3_didAll : Mt := (yX3_didAll, cX3_didAll, 3, (some .boolean))
theorem cb_X3_didAll : CB mX3_didAll 1 := ⟨tb_in (tt_3 165 rfl) rfl, tb_in (tt_1 5 rfl) rfl, ⟨by decide +kernel, by decide +kernel, by decide +kernel⟩, by decide +kernel⟩
abbrev mX6_forget : Mt := (yX6_forget, cX6_forget, 2, (some .int))
theorem cb_X6_forget : CB mX6_forget 0 := ⟨tb_in (tt_3 170 rfl) rfl, tb_in (tt_1 1 rfl) rfl, ⟨by decide +kernel, by decide +kernel, by decide +kernel⟩, by decide +kernel⟩
abbrev mX6_drunk : Mt := (yX6_drunk, cX6_drunk, 6, (some .long))
theorem cb_X6_drunk : CB mX6_drunk 2 := ⟨tb_in (tt_3 175 rfl) rfl, tb_in (tt_1 1 rfl) rfl, ⟨by decide +kernel, by decide +kernel, by decide +kernel⟩, by decide +kernel⟩
abbrev mX6_partOf : Mt := (yX6_partOf, cX6_partOf, 7, (some .long))
theorem cb_X6_partOf : CB mX6_partOf 3 := ⟨tb_in (tt_3 180 rfl) rfl, tb_in (tt_1 1 rfl) rfl, ⟨by decide +kernel, by decide +kernel, by decide +kernel⟩, by decide +kernel⟩
abbrev mX6_mean : Mt := (yX6_mean, cX6_mean, 9, (some .long))
theorem cb_X6_mean : CB mX6_mean 2 := ⟨tb_in (tt_3 184 rfl) rfl, tb_in (tt_1 1 rfl) rfl, ⟨by decide +kernel, by decide +kernel, by decide +kernel⟩, by decide +kernel⟩
abbrev mX6_year : Mt := (yX6_year, cX6_year, 11, (some .int))
theorem cb_X6_year : CB mX6_year 3 := ⟨tb_in (tt_3 188 rfl) rfl, tb_in (tt_1 1 rfl) rfl, ⟨by decide +kernel, by decide +kernel, by decide +kernel⟩, by decide +kernel⟩
abbrev mX6_image : Mt := (yX6_image, cX6_image, 3, (some .int))
theorem cb_X6_image : CB mX6_image 1 := ⟨tb_in (tt_3 193 rfl) rfl, tb_in (tt_1 1 rfl) rfl, ⟨by decide +kernel, by decide +kernel, by decide +kernel⟩, by decide +kernel⟩
abbrev mX4_copyFrom : Mt := (yX4_copyFrom, cX4_copyFrom, 2, none)
theorem cb_X4_copyFrom : CB mX4_copyFrom 1 := ⟨tb_in (tt_3 197 rfl) rfl, tb_in (tt_1 2 rfl) rfl, ⟨by decide +kernel, by decide +kernel, by decide +kernel⟩, by decide +kernel⟩
abbrev mX6_restore : Mt := (yX6_restore, cX6_restore, 3, (some .int))
theorem cb_X6_restore : CB mX6_restore 1 := ⟨tb_in (tt_3 201 rfl) rfl, tb_in (tt_1 1 rfl) rfl, ⟨by decide +kernel, by decide +kernel, by decide +kernel⟩, by decide +kernel⟩
abbrev mX6_told : Mt := (yX6_told, cX6_told, 5, (some .int))
theorem cb_X6_told : CB mX6_told 1 := ⟨tb_in (tt_3 205 rfl) rfl, tb_in (tt_1 1 rfl) rfl, ⟨by decide +kernel, by decide +kernel, by decide +kernel⟩, by decide +kernel⟩
abbrev mX6_toldPlain : Mt := (yX6_toldPlain, cX6_toldPlain, 2, (some .int))
theorem cb_X6_toldPlain : CB mX6_toldPlain 1 := ⟨tb_in (tt_3 209 rfl) rfl, tb_in (tt_1 1 rfl) rfl, ⟨by decide +kernel, by decide +kernel, by decide +kernel⟩, by decide +kernel⟩
abbrev mX7_init : Mt := (yX7_init, cX7_init, 1, none)
theorem cb_X7_init : CB mX7_init 0 := ⟨tb_in (tt_3 214 rfl) rfl, tb_in (tt_1 8 rfl) rfl, ⟨by decide +kernel, by decide +kernel, by decide +kernel⟩, by decide +kernel⟩
abbrev mX7_plain : Mt := (yX7_plain, cX7_plain, 2, none)
theorem cb_X7_plain : CB mX7_plain 0 := ⟨tb_in (tt_3 219 rfl) rfl, tb_in (tt_1 8 rfl) rfl, ⟨by decide +kernel, by decide +kernel, by decide +kernel⟩, by decide +kernel⟩
abbrev mX7_all : Mt := (yX7_all, cX7_all, 1, (some .long))
theorem cb_X7_all : CB mX7_all 0 := ⟨tb_in (tt_3 223 rfl) rfl, tb_in (tt_1 8 rfl) rfl, ⟨by decide +kernel, by decide +kernel, by decide +kernel⟩, by decide +kernel⟩
abbrev mX7_worlds : Mt := (yX7_worlds, cX7_worlds, 1, (some .int))
theorem cb_X7_worlds : CB mX7_worlds 0 := ⟨tb_in (tt_3 228 rfl) rfl, tb_in (tt_1 8 rfl) rfl, ⟨by decide +kernel, by decide +kernel, by decide +kernel⟩, by decide +kernel⟩
abbrev mX7_things : Mt := (yX7_things, cX7_things, 3, (some .int))
theorem cb_X7_things : CB mX7_things 1 := ⟨tb_in (tt_4 81 rfl) rfl, tb_in (tt_1 8 rfl) rfl, ⟨by decide +kernel, by decide +kernel, by decide +kernel⟩, by decide +kernel⟩
abbrev mX7_in : Mt := (yX7_in, cX7_in, 3, (some .boolean))
theorem cb_X7_in : CB mX7_in 3 := ⟨tb_in (tt_4 84 rfl) rfl, tb_in (tt_1 8 rfl) rfl, ⟨by decide +kernel, by decide +kernel, by decide +kernel⟩, by decide +kernel⟩
abbrev mX7_worth : Mt := (yX7_worth, cX7_worth, 5, (some .int))
theorem cb_X7_worth : CB mX7_worth 3 := ⟨tb_in (tt_4 88 rfl) rfl, tb_in (tt_1 8 rfl) rfl, ⟨by decide +kernel, by decide +kernel, by decide +kernel⟩, by decide +kernel⟩
abbrev mX7_isCousin : Mt := (yX7_isCousin, cX7_isCousin, 1, (some .boolean))
theorem cb_X7_isCousin : CB mX7_isCousin 1 := ⟨tb_in (tt_4 91 rfl) rfl, tb_in (tt_1 8 rfl) rfl, ⟨by decide +kernel, by decide +kernel, by decide +kernel⟩, by decide +kernel⟩
abbrev mX7_isThing : Mt := (yX7_isThing, cX7_isThing, 2, (some .boolean))
theorem cb_X7_isThing : CB mX7_isThing 1 := ⟨tb_in (tt_4 95 rfl) rfl, tb_in (tt_1 8 rfl) rfl, ⟨by decide +kernel, by decide +kernel, by decide +kernel⟩, by decide +kernel⟩
abbrev mX7_taste : Mt := (yX7_taste, cX7_taste, 4, (some .int))
theorem cb_X7_taste : CB mX7_taste 2 := ⟨tb_in (tt_4 99 rfl) rfl, tb_in (tt_1 8 rfl) rfl, ⟨by decide +kernel, by decide +kernel, by decide +kernel⟩, by decide +kernel⟩
abbrev mX7_set : Mt := (yX7_set, cX7_set, 5, (some .int))
theorem cb_X7_set : CB mX7_set 2 := ⟨tb_in (tt_4 103 rfl) rfl, tb_in (tt_1 8 rfl) rfl, ⟨by decide +kernel, by decide +kernel, by decide +kernel⟩, by decide +kernel⟩
abbrev mX7_now : Mt := (yX7_now, cX7_now, 3, (some .int))
theorem cb_X7_now : CB mX7_now 1 := ⟨tb_in (tt_4 107 rfl) rfl, tb_in (tt_1 8 rfl) rfl, ⟨by decide +kernel, by decide +kernel, by decide +kernel⟩, by decide +kernel⟩
abbrev mX7_isWorld : Mt := (yX7_isWorld, cX7_isWorld, 2, (some .boolean))
theorem cb_X7_isWorld : CB mX7_isWorld 1 := ⟨tb_in (tt_4 111 rfl) rfl, tb_in (tt_1 8 rfl) rfl, ⟨by decide +kernel, by decide +kernel, by decide +kernel⟩, by decide +kernel⟩
abbrev mX7_worthOf : Mt := (yX7_worthOf, cX7_worthOf, 3, (some .int))
theorem cb_X7_worthOf : CB mX7_worthOf 2 := ⟨tb_in (tt_4 115 rfl) rfl, tb_in (tt_1 8 rfl) rfl, ⟨by decide +kernel, by decide +kernel, by decide +kernel⟩, by decide +kernel⟩
abbrev mX7_worthTo : Mt := (yX7_worthTo, cX7_worthTo, 5, (some .int))
theorem cb_X7_worthTo : CB mX7_worthTo 2 := ⟨tb_in (tt_4 119 rfl) rfl, tb_in (tt_1 8 rfl) rfl, ⟨by decide +kernel, by decide +kernel, by decide +kernel⟩, by decide +kernel⟩
abbrev mX7_has : Mt := (yX7_has, cX7_has, 2, (some .boolean))
theorem cb_X7_has : CB mX7_has 2 := ⟨tb_in (tt_4 122 rfl) rfl, tb_in (tt_1 8 rfl) rfl, ⟨by decide +kernel, by decide +kernel, by decide +kernel⟩, by decide +kernel⟩
abbrev mX7_say : Mt := (yX7_say, cX7_say, 2, (some .int))
theorem cb_X7_say : CB mX7_say 1 := ⟨tb_in (tt_4 126 rfl) rfl, tb_in (tt_1 8 rfl) rfl, ⟨by decide +kernel, by decide +kernel, by decide +kernel⟩, by decide +kernel⟩
abbrev mX7_wipe : Mt := (yX7_wipe, cX7_wipe, 2, (some .int))
theorem cb_X7_wipe : CB mX7_wipe 0 := ⟨tb_in (tt_4 130 rfl) rfl, tb_in (tt_1 8 rfl) rfl, ⟨by decide +kernel, by decide +kernel, by decide +kernel⟩, by decide +kernel⟩
abbrev mX7_fault : Mt := (yX7_fault, cX7_fault, 1, (some .int))
theorem cb_X7_fault : CB mX7_fault 0 := ⟨tb_in (tt_4 134 rfl) rfl, tb_in (tt_1 8 rfl) rfl, ⟨by decide +kernel, by decide +kernel, by decide +kernel⟩, by decide +kernel⟩
abbrev mX7_faultOf : Mt := (yX7_faultOf, cX7_faultOf, 7, (some .int))
theorem cb_X7_faultOf : CB mX7_faultOf 0 := ⟨tb_in (tt_4 138 rfl) rfl, tb_in (tt_1 8 rfl) rfl, ⟨by decide +kernel, by decide +kernel, by decide +kernel⟩, by decide +kernel⟩
abbrev mX7_isLetter : Mt := (yX7_isLetter, cX7_isLetter, 2, (some .boolean))
theorem cb_X7_isLetter : CB mX7_isLetter 1 := ⟨tb_in (tt_4 142 rfl) rfl, tb_in (tt_1 8 rfl) rfl, ⟨by decide +kernel, by decide +kernel, by decide +kernel⟩, by decide +kernel⟩
abbrev mX7_isPair : Mt := (yX7_isPair, cX7_isPair, 1, (some .boolean))
theorem cb_X7_isPair : CB mX7_isPair 1 := ⟨tb_in (tt_4 145 rfl) rfl, tb_in (tt_1 8 rfl) rfl, ⟨by decide +kernel, by decide +kernel, by decide +kernel⟩, by decide +kernel⟩
abbrev mX7_enact : Mt := (yX7_enact, cX7_enact, 4, (some .int))
theorem cb_X7_enact : CB mX7_enact 0 := ⟨tb_in (tt_4 149 rfl) rfl, tb_in (tt_1 8 rfl) rfl, ⟨by decide +kernel, by decide +kernel, by decide +kernel⟩, by decide +kernel⟩
abbrev mX7_layPad : Mt := (yX7_layPad, cX7_layPad, 2, none)
theorem cb_X7_layPad : CB mX7_layPad 0 := ⟨tb_in (tt_4 153 rfl) rfl, tb_in (tt_1 8 rfl) rfl, ⟨by decide +kernel, by decide +kernel, by decide +kernel⟩, by decide +kernel⟩
abbrev mX7_isSo : Mt := (yX7_isSo, cX7_isSo, 7, (some .boolean))
theorem cb_X7_isSo : CB mX7_isSo 2 := ⟨tb_in (tt_4 157 rfl) rfl, tb_in (tt_1 8 rfl) rfl, ⟨by decide +kernel, by decide +kernel, by decide +kernel⟩, by decide +kernel⟩
abbrev mX7_pairOf : Mt := (yX7_pairOf, cX7_pairOf, 4, (some .boolean))
theorem cb_X7_pairOf : CB mX7_pairOf 3 := ⟨tb_in (tt_4 161 rfl) rfl, tb_in (tt_1 8 rfl) rfl, ⟨by decide +kernel, by decide +kernel, by decide +kernel⟩, by decide +kernel⟩
abbrev mX7_kept : Mt := (yX7_kept, cX7_kept, 6, (some .int))
theorem cb_X7_kept : CB mX7_kept 1 := ⟨tb_in (tt_4 165 rfl) rfl, tb_in (tt_1 8 rfl) rfl, ⟨by decide +kernel, by decide +kernel, by decide +kernel⟩, by decide +kernel⟩
abbrev mX7_keeping : Mt := (yX7_keeping, cX7_keeping, 7, (some .long))
theorem cb_X7_keeping : CB mX7_keeping 1 := ⟨tb_in (tt_4 169 rfl) rfl, tb_in (tt_1 8 rfl) rfl, ⟨by decide +kernel, by decide +kernel, by decide +kernel⟩, by decide +kernel⟩
abbrev mX7_saidOf : Mt := (yX7_saidOf, cX7_saidOf, 3, (some .int))
theorem cb_X7_saidOf : CB mX7_saidOf 0 := ⟨tb_in (tt_4 173 rfl) rfl, tb_in (tt_1 8 rfl) rfl, ⟨by decide +kernel, by decide +kernel, by decide +kernel⟩, by decide +kernel⟩
abbrev mX7_holds : Mt := (yX7_holds, cX7_holds, 3, (some .boolean))
theorem cb_X7_holds : CB mX7_holds 2 := ⟨tb_in (tt_4 176 rfl) rfl, tb_in (tt_1 8 rfl) rfl, ⟨by decide +kernel, by decide +kernel, by decide +kernel⟩, by decide +kernel⟩
abbrev mX7_bits : Mt := (yX7_bits, cX7_bits, 3, (some .int))
theorem cb_X7_bits : CB mX7_bits 1 := ⟨tb_in (tt_4 179 rfl) rfl, tb_in (tt_1 8 rfl) rfl, ⟨by decide +kernel, by decide +kernel, by decide +kernel⟩, by decide +kernel⟩
abbrev mX7_count : Mt := (yX7_count, cX7_count, 5, (some .int))
theorem cb_X7_count : CB mX7_count 1 := ⟨tb_in (tt_4 183 rfl) rfl, tb_in (tt_1 8 rfl) rfl, ⟨by decide +kernel, by decide +kernel, by decide +kernel⟩, by decide +kernel⟩
abbrev mX7_makes : Mt := (yX7_makes, cX7_makes, 1, (some .int))
theorem cb_X7_makes : CB mX7_makes 0 := ⟨tb_in (tt_4 187 rfl) rfl, tb_in (tt_1 8 rfl) rfl, ⟨by decide +kernel, by decide +kernel, by decide +kernel⟩, by decide +kernel⟩
abbrev mX7_made : Mt := (yX7_made, cX7_made, 2, (some .int))
theorem cb_X7_made : CB mX7_made 0 := ⟨tb_in (tt_4 191 rfl) rfl, tb_in (tt_1 8 rfl) rfl, ⟨by decide +kernel, by decide +kernel, by decide +kernel⟩, by decide +kernel⟩
abbrev mX7_madeOf : Mt := (yX7_madeOf, cX7_madeOf, 6, (some .int))
theorem cb_X7_madeOf : CB mX7_madeOf 2 := ⟨tb_in (tt_4 195 rfl) rfl, tb_in (tt_1 8 rfl) rfl, ⟨by decide +kernel, by decide +kernel, by decide +kernel⟩, by decide +kernel⟩
abbrev mX7_likes : Mt := (yX7_likes, cX7_likes, 3, (some .int))
theorem cb_X7_likes : CB mX7_likes 2 := ⟨tb_in (tt_4 199 rfl) rfl, tb_in (tt_1 8 rfl) rfl, ⟨by decide +kernel, by decide +kernel, by decide +kernel⟩, by decide +kernel⟩
abbrev mX7_tasteOf : Mt := (yX7_tasteOf, cX7_tasteOf, 4, (some .int))
theorem cb_X7_tasteOf : CB mX7_tasteOf 1 := ⟨tb_in (tt_4 203 rfl) rfl, tb_in (tt_1 8 rfl) rfl, ⟨by decide +kernel, by decide +kernel, by decide +kernel⟩, by decide +kernel⟩
abbrev mX7_extreme : Mt := (yX7_extreme, cX7_extreme, 10, (some .int))
theorem cb_X7_extreme : CB mX7_extreme 3 := ⟨tb_in (tt_4 207 rfl) rfl, tb_in (tt_1 8 rfl) rfl, ⟨by decide +kernel, by decide +kernel, by decide +kernel⟩, by decide +kernel⟩
abbrev mX7_harmed : Mt := (yX7_harmed, cX7_harmed, 4, (some .int))
theorem cb_X7_harmed : CB mX7_harmed 0 := ⟨tb_in (tt_4 211 rfl) rfl, tb_in (tt_1 8 rfl) rfl, ⟨by decide +kernel, by decide +kernel, by decide +kernel⟩, by decide +kernel⟩
abbrev mX7_grant : Mt := (yX7_grant, cX7_grant, 3, (some .int))
theorem cb_X7_grant : CB mX7_grant 0 := ⟨tb_in (tt_4 215 rfl) rfl, tb_in (tt_1 8 rfl) rfl, ⟨by decide +kernel, by decide +kernel, by decide +kernel⟩, by decide +kernel⟩
abbrev mX7_undo : Mt := (yX7_undo, cX7_undo, 1, (some .int))
theorem cb_X7_undo : CB mX7_undo 0 := ⟨tb_in (tt_4 219 rfl) rfl, tb_in (tt_1 8 rfl) rfl, ⟨by decide +kernel, by decide +kernel, by decide +kernel⟩, by decide +kernel⟩
abbrev mX7_comma : Mt := (yX7_comma, cX7_comma, 9, (some .int))
theorem cb_X7_comma : CB mX7_comma 1 := ⟨tb_in (tt_4 223 rfl) rfl, tb_in (tt_1 8 rfl) rfl, ⟨by decide +kernel, by decide +kernel, by decide +kernel⟩, by decide +kernel⟩
abbrev mX7_pairSign : Mt := (yX7_pairSign, cX7_pairSign, 1, (some .int))
theorem cb_X7_pairSign : CB mX7_pairSign 1 := ⟨tb_in (tt_4 226 rfl) rfl, tb_in (tt_1 8 rfl) rfl, ⟨by decide +kernel, by decide +kernel, by decide +kernel⟩, by decide +kernel⟩
abbrev mX7_term : Mt := (yX7_term, cX7_term, 3, (some .int))
theorem cb_X7_term : CB mX7_term 1 := ⟨tb_in (tt_4 230 rfl) rfl, tb_in (tt_1 8 rfl) rfl, ⟨by decide +kernel, by decide +kernel, by decide +kernel⟩, by decide +kernel⟩
abbrev mX7_terms : Mt := (yX7_terms, cX7_terms, 3, (some .int))
theorem cb_X7_terms : CB mX7_terms 0 := ⟨tb_in (tt_4 234 rfl) rfl, tb_in (tt_1 8 rfl) rfl, ⟨by decide +kernel, by decide +kernel, by decide +kernel⟩, by decide +kernel⟩
abbrev mX7_madeOfTerm : Mt := (yX7_madeOfTerm, cX7_madeOfTerm, 3, (some .int))
theorem cb_X7_madeOfTerm : CB mX7_madeOfTerm 2 := ⟨tb_in (tt_4 238 rfl) rfl, tb_in (tt_1 8 rfl) rfl, ⟨by decide +kernel, by decide +kernel, by decide +kernel⟩, by decide +kernel⟩
abbrev mX7_keepingTerm : Mt := (yX7_keepingTerm, cX7_keepingTerm, 6, (some .long))
theorem cb_X7_keepingTerm : CB mX7_keepingTerm 2 := ⟨tb_in (tt_5 2 rfl) rfl, tb_in (tt_1 8 rfl) rfl, ⟨by decide +kernel, by decide +kernel, by decide +kernel⟩, by decide +kernel⟩
abbrev mX7_layTerm : Mt := (yX7_layTerm, cX7_layTerm, 4, none)
theorem cb_X7_layTerm : CB mX7_layTerm 1 := ⟨tb_in (tt_5 6 rfl) rfl, tb_in (tt_1 8 rfl) rfl, ⟨by decide +kernel, by decide +kernel, by decide +kernel⟩, by decide +kernel⟩
abbrev mX7_keepsTerm : Mt := (yX7_keepsTerm, cX7_keepsTerm, 3, (some .boolean))
theorem cb_X7_keepsTerm : CB mX7_keepsTerm 2 := ⟨tb_in (tt_5 10 rfl) rfl, tb_in (tt_1 8 rfl) rfl, ⟨by decide +kernel, by decide +kernel, by decide +kernel⟩, by decide +kernel⟩
abbrev mX7_wording : Mt := (yX7_wording, cX7_wording, 7, (some .int))
theorem cb_X7_wording : CB mX7_wording 2 := ⟨tb_in (tt_5 14 rfl) rfl, tb_in (tt_1 8 rfl) rfl, ⟨by decide +kernel, by decide +kernel, by decide +kernel⟩, by decide +kernel⟩
abbrev mX7_words : Mt := (yX7_words, cX7_words, 4, (some .int))
theorem cb_X7_words : CB mX7_words 1 := ⟨tb_in (tt_5 18 rfl) rfl, tb_in (tt_1 8 rfl) rfl, ⟨by decide +kernel, by decide +kernel, by decide +kernel⟩, by decide +kernel⟩
abbrev mX7_digitOf : Mt := (yX7_digitOf, cX7_digitOf, 5, (some .int))
theorem cb_X7_digitOf : CB mX7_digitOf 2 := ⟨tb_in (tt_5 22 rfl) rfl, tb_in (tt_1 8 rfl) rfl, ⟨by decide +kernel, by decide +kernel, by decide +kernel⟩, by decide +kernel⟩
abbrev mX7_most : Mt := (yX7_most, cX7_most, 8, (some .int))
theorem cb_X7_most : CB mX7_most 2 := ⟨tb_in (tt_5 26 rfl) rfl, tb_in (tt_1 8 rfl) rfl, ⟨by decide +kernel, by decide +kernel, by decide +kernel⟩, by decide +kernel⟩
abbrev mX7_row : Mt := (yX7_row, cX7_row, 6, (some .int))
theorem cb_X7_row : CB mX7_row 3 := ⟨tb_in (tt_5 30 rfl) rfl, tb_in (tt_1 8 rfl) rfl, ⟨by decide +kernel, by decide +kernel, by decide +kernel⟩, by decide +kernel⟩
abbrev mX7_layAhead : Mt := (yX7_layAhead, cX7_layAhead, 3, none)
theorem cb_X7_layAhead : CB mX7_layAhead 1 := ⟨tb_in (tt_5 34 rfl) rfl, tb_in (tt_1 8 rfl) rfl, ⟨by decide +kernel, by decide +kernel, by decide +kernel⟩, by decide +kernel⟩
abbrev mX7_bestFrom : Mt := (yX7_bestFrom, cX7_bestFrom, 7, (some .int))
theorem cb_X7_bestFrom : CB mX7_bestFrom 2 := ⟨tb_in (tt_5 38 rfl) rfl, tb_in (tt_1 8 rfl) rfl, ⟨by decide +kernel, by decide +kernel, by decide +kernel⟩, by decide +kernel⟩
abbrev mX7_lamps : Mt := (yX7_lamps, cX7_lamps, 8, (some .int))
theorem cb_X7_lamps : CB mX7_lamps 3 := ⟨tb_in (tt_5 43 rfl) rfl, tb_in (tt_1 8 rfl) rfl, ⟨by decide +kernel, by decide +kernel, by decide +kernel⟩, by decide +kernel⟩
abbrev mX7_sixths : Mt := (yX7_sixths, cX7_sixths, 5, (some .int))
theorem cb_X7_sixths : CB mX7_sixths 4 := ⟨tb_in (tt_5 47 rfl) rfl, tb_in (tt_1 8 rfl) rfl, ⟨by decide +kernel, by decide +kernel, by decide +kernel⟩, by decide +kernel⟩
abbrev mX7_votes : Mt := (yX7_votes, cX7_votes, 2, (some .int))
theorem cb_X7_votes : CB mX7_votes 0 := ⟨tb_in (tt_5 51 rfl) rfl, tb_in (tt_1 8 rfl) rfl, ⟨by decide +kernel, by decide +kernel, by decide +kernel⟩, by decide +kernel⟩
abbrev mX7_votesFor : Mt := (yX7_votesFor, cX7_votesFor, 4, (some .int))
theorem cb_X7_votesFor : CB mX7_votesFor 1 := ⟨tb_in (tt_5 55 rfl) rfl, tb_in (tt_1 8 rfl) rfl, ⟨by decide +kernel, by decide +kernel, by decide +kernel⟩, by decide +kernel⟩
abbrev mX7_agreed : Mt := (yX7_agreed, cX7_agreed, 7, (some .int))
theorem cb_X7_agreed : CB mX7_agreed 1 := ⟨tb_in (tt_5 59 rfl) rfl, tb_in (tt_1 8 rfl) rfl, ⟨by decide +kernel, by decide +kernel, by decide +kernel⟩, by decide +kernel⟩
abbrev mX7_worthToAll : Mt := (yX7_worthToAll, cX7_worthToAll, 4, (some .int))
theorem cb_X7_worthToAll : CB mX7_worthToAll 1 := ⟨tb_in (tt_5 64 rfl) rfl, tb_in (tt_1 8 rfl) rfl, ⟨by decide +kernel, by decide +kernel, by decide +kernel⟩, by decide +kernel⟩
abbrev mX7_paid : Mt := (yX7_paid, cX7_paid, 6, (some .int))
theorem cb_X7_paid : CB mX7_paid 0 := ⟨tb_in (tt_5 68 rfl) rfl, tb_in (tt_1 8 rfl) rfl, ⟨by decide +kernel, by decide +kernel, by decide +kernel⟩, by decide +kernel⟩
abbrev mX7_picked : Mt := (yX7_picked, cX7_picked, 4, (some .int))
theorem cb_X7_picked : CB mX7_picked 1 := ⟨tb_in (tt_5 72 rfl) rfl, tb_in (tt_1 8 rfl) rfl, ⟨by decide +kernel, by decide +kernel, by decide +kernel⟩, by decide +kernel⟩
abbrev mX7_fit : Mt := (yX7_fit, cX7_fit, 6, (some .int))
theorem cb_X7_fit : CB mX7_fit 1 := ⟨tb_in (tt_5 76 rfl) rfl, tb_in (tt_1 8 rfl) rfl, ⟨by decide +kernel, by decide +kernel, by decide +kernel⟩, by decide +kernel⟩
abbrev mX7_isTaste : Mt := (yX7_isTaste, cX7_isTaste, 7, (some .boolean))
theorem cb_X7_isTaste : CB mX7_isTaste 1 := ⟨tb_in (tt_5 80 rfl) rfl, tb_in (tt_1 8 rfl) rfl, ⟨by decide +kernel, by decide +kernel, by decide +kernel⟩, by decide +kernel⟩
abbrev mX7_tasteBy : Mt := (yX7_tasteBy, cX7_tasteBy, 5, (some .int))
theorem cb_X7_tasteBy : CB mX7_tasteBy 2 := ⟨tb_in (tt_5 84 rfl) rfl, tb_in (tt_1 8 rfl) rfl, ⟨by decide +kernel, by decide +kernel, by decide +kernel⟩, by decide +kernel⟩
abbrev mX7_came : Mt := (yX7_came, cX7_came, 3, (some .int))
theorem cb_X7_came : CB mX7_came 2 := ⟨tb_in (tt_5 88 rfl) rfl, tb_in (tt_1 8 rfl) rfl, ⟨by decide +kernel, by decide +kernel, by decide +kernel⟩, by decide +kernel⟩
abbrev mX7_letters : Mt := (yX7_letters, cX7_letters, 7, (some .int))
theorem cb_X7_letters : CB mX7_letters 1 := ⟨tb_in (tt_5 92 rfl) rfl, tb_in (tt_1 8 rfl) rfl, ⟨by decide +kernel, by decide +kernel, by decide +kernel⟩, by decide +kernel⟩
abbrev mX7_forget : Mt := (yX7_forget, cX7_forget, 2, (some .int))
theorem cb_X7_forget : CB mX7_forget 0 := ⟨tb_in (tt_5 96 rfl) rfl, tb_in (tt_1 8 rfl) rfl, ⟨by decide +kernel, by decide +kernel, by decide +kernel⟩, by decide +kernel⟩
abbrev mX7_drunk : Mt := (yX7_drunk, cX7_drunk, 9, (some .long))
theorem cb_X7_drunk : CB mX7_drunk 2 := ⟨tb_in (tt_5 100 rfl) rfl, tb_in (tt_1 8 rfl) rfl, ⟨by decide +kernel, by decide +kernel, by decide +kernel⟩, by decide +kernel⟩
abbrev mX7_least : Mt := (yX7_least, cX7_least, 11, (some .long))
theorem cb_X7_least : CB mX7_least 3 := ⟨tb_in (tt_5 106 rfl) rfl, tb_in (tt_1 8 rfl) rfl, ⟨by decide +kernel, by decide +kernel, by decide +kernel⟩, by decide +kernel⟩
abbrev mX7_mean : Mt := (yX7_mean, cX7_mean, 9, (some .long))
theorem cb_X7_mean : CB mX7_mean 2 := ⟨tb_in (tt_5 110 rfl) rfl, tb_in (tt_1 8 rfl) rfl, ⟨by decide +kernel, by decide +kernel, by decide +kernel⟩, by decide +kernel⟩
abbrev mX7_year : Mt := (yX7_year, cX7_year, 10, (some .int))
theorem cb_X7_year : CB mX7_year 3 := ⟨tb_in (tt_5 114 rfl) rfl, tb_in (tt_1 8 rfl) rfl, ⟨by decide +kernel, by decide +kernel, by decide +kernel⟩, by decide +kernel⟩
abbrev mX7_image : Mt := (yX7_image, cX7_image, 4, (some .int))
theorem cb_X7_image : CB mX7_image 1 := ⟨tb_in (tt_5 119 rfl) rfl, tb_in (tt_1 8 rfl) rfl, ⟨by decide +kernel, by decide +kernel, by decide +kernel⟩, by decide +kernel⟩
abbrev mX7_restore : Mt := (yX7_restore, cX7_restore, 4, (some .int))
theorem cb_X7_restore : CB mX7_restore 1 := ⟨tb_in (tt_5 123 rfl) rfl, tb_in (tt_1 8 rfl) rfl, ⟨by decide +kernel, by decide +kernel, by decide +kernel⟩, by decide +kernel⟩
abbrev mX7_told : Mt := (yX7_told, cX7_told, 3, (some .int))
theorem cb_X7_told : CB mX7_told 1 := ⟨tb_in (tt_5 127 rfl) rfl, tb_in (tt_1 8 rfl) rfl, ⟨by decide +kernel, by decide +kernel, by decide +kernel⟩, by decide +kernel⟩
theorem ca_L_9 : CN RL 9 mX6_init 0 := ⟨cb_X6_init, tb_in (tt_1 14 rfl) rfl, tb_in (tt_1 15 rfl) rfl, rfl, rfl⟩
theorem ca_X6_9 : CNn RX6 9 mX4_init 0 := ⟨cb_X4_init, ⟨_, List.mem_filter.mpr ⟨tt_1 22 rfl, rfl⟩⟩, tb_in (tt_1 23 rfl) rfl, rfl, rfl⟩
theorem ca_X6_22 : CNn RX6 22 mX1_init 0 := ⟨cb_X1_init, ⟨_, List.mem_filter.mpr ⟨tt_1 107 rfl, rfl⟩⟩, tb_in (tt_1 108 rfl) rfl, rfl, rfl⟩
theorem ca_X6_32 : CNn RX6 32 mX5_init 0 := ⟨cb_X5_init, ⟨_, List.mem_filter.mpr ⟨tt_1 125 rfl, rfl⟩⟩, tb_in (tt_1 126 rfl) rfl, rfl, rfl⟩
theorem ca_X6_39 : CN RX6 39 mX3_init 2 := ⟨cb_X3_init, tb_in (tt_1 151 rfl) rfl, tb_in (tt_1 152 rfl) rfl, rfl, rfl⟩
theorem ca_X6_48 : CN RX6 48 mX2_init 2 := ⟨cb_X2_init, tb_in (tt_1 171 rfl) rfl, tb_in (tt_1 172 rfl) rfl, rfl, rfl⟩
theorem ca_X6_55 : CNn RX6 55 mX0_init 0 := ⟨cb_X0_init, ⟨_, List.mem_filter.mpr ⟨tt_1 204 rfl, rfl⟩⟩, tb_in (tt_1 205 rfl) rfl, rfl, rfl⟩
theorem ca_X6_67 : CV RX6 67 mX4_begin 1 := ⟨cb_X4_begin, tb_in (tt_1 221 rfl) rfl, tb_in (tt_1 222 rfl) rfl, tb_in (tt_1 223 rfl) rfl⟩
theorem ca_X4_50 : CV RX4 50 mX4_allWorlds 0 := ⟨cb_X4_allWorlds, tb_in (tt_1 225 rfl) rfl, tb_in (tt_1 226 rfl) rfl, tb_in (tt_1 227 rfl) rfl⟩
theorem ca_X4_78 : CV RX4 78 mX4_worldCount 0 := ⟨cb_X4_worldCount, tb_in (tt_1 230 rfl) rfl, tb_in (tt_1 231 rfl) rfl, tb_in (tt_1 232 rfl) rfl⟩
theorem ca_X4_61 : CV RX4 61 mX4_forgetSights 0 := ⟨cb_X4_forgetSights, tb_in (tt_1 234 rfl) rfl, tb_in (tt_1 235 rfl) rfl, tb_in (tt_1 236 rfl) rfl⟩
theorem ca_X6_71 : CV RX6 71 mX5_listFor 1 := ⟨cb_X5_listFor, tb_in (tt_1 238 rfl) rfl, tb_in (tt_1 239 rfl) rfl, tb_in (tt_2 0 rfl) rfl⟩
theorem ca_L_13 : CV RL 13 mX6_things 1 := ⟨cb_X6_things, tb_in (tt_2 38 rfl) rfl, tb_in (tt_2 39 rfl) rfl, tb_in (tt_2 40 rfl) rfl⟩
theorem ca_L_18 : CV RL 18 mX6_worth 3 := ⟨cb_X6_worth, tb_in (tt_2 42 rfl) rfl, tb_in (tt_2 43 rfl) rfl, tb_in (tt_2 44 rfl) rfl⟩
theorem ca_X6_78 : CS RX6 78 mX6_isCousin 1 := ⟨cb_X6_isCousin, tb_in (tt_2 46 rfl) rfl, tb_in (tt_2 47 rfl) rfl⟩
theorem ca_X6_82 : CV RX6 82 mX6_isThing 1 := ⟨cb_X6_isThing, tb_in (tt_2 49 rfl) rfl, tb_in (tt_2 51 rfl) rfl, tb_in (tp_1 0 rfl) rfl⟩
theorem ca_L_23 : CV RL 23 mX6_taste 2 := ⟨cb_X6_taste, tb_in (tt_2 53 rfl) rfl, tb_in (tt_2 54 rfl) rfl, tb_in (tt_2 55 rfl) rfl⟩
theorem ca_L_28 : CV RL 28 mX6_set 2 := ⟨cb_X6_set, tb_in (tt_2 57 rfl) rfl, tb_in (tt_2 58 rfl) rfl, tb_in (tt_2 59 rfl) rfl⟩
theorem ca_L_32 : CV RL 32 mX6_now 1 := ⟨cb_X6_now, tb_in (tt_2 61 rfl) rfl, tb_in (tt_2 62 rfl) rfl, tb_in (tt_2 63 rfl) rfl⟩
theorem ca_X6_100 : CV RX6 100 mX6_isWorld 1 := ⟨cb_X6_isWorld, tb_in (tt_2 65 rfl) rfl, tb_in (tt_2 67 rfl) rfl, tb_in (tp_1 1 rfl) rfl⟩
theorem ca_X6_307 : CV RX6 307 mX4_worldCount 0 := ⟨cb_X4_worldCount, tb_in (tt_2 69 rfl) rfl, tb_in (tt_1 231 rfl) rfl, tb_in (tt_1 232 rfl) rfl⟩
theorem ca_L_36 : CV RL 36 mX6_worthOf 2 := ⟨cb_X6_worthOf, tb_in (tt_2 70 rfl) rfl, tb_in (tt_2 71 rfl) rfl, tb_in (tt_2 72 rfl) rfl⟩
theorem ca_X6_109 : CV RX6 109 mX4_worthTo 2 := ⟨cb_X4_worthTo, tb_in (tt_2 74 rfl) rfl, tb_in (tt_2 75 rfl) rfl, tb_in (tt_2 76 rfl) rfl⟩
theorem ca_L_40 : CV RL 40 mX6_say 1 := ⟨cb_X6_say, tb_in (tt_2 78 rfl) rfl, tb_in (tt_2 79 rfl) rfl, tb_in (tt_2 80 rfl) rfl⟩
theorem ca_X6_113 : CV RX6 113 mX1_write 1 := ⟨cb_X1_write, tb_in (tt_2 82 rfl) rfl, tb_in (tt_2 83 rfl) rfl, tb_in (tt_2 84 rfl) rfl⟩
theorem ca_L_44 : CV RL 44 mX6_wipe 0 := ⟨cb_X6_wipe, tb_in (tt_2 86 rfl) rfl, tb_in (tt_2 87 rfl) rfl, tb_in (tt_2 88 rfl) rfl⟩
theorem ca_X6_119 : CV RX6 119 mX1_clear 0 := ⟨cb_X1_clear, tb_in (tt_2 90 rfl) rfl, tb_in (tt_2 91 rfl) rfl, tb_in (tt_2 92 rfl) rfl⟩
theorem ca_L_49 : CV RL 49 mX6_fault 0 := ⟨cb_X6_fault, tb_in (tt_2 94 rfl) rfl, tb_in (tt_2 95 rfl) rfl, tb_in (tt_2 96 rfl) rfl⟩
theorem ca_X6_123 : CV RX6 123 mX1_firstFault 1 := ⟨cb_X1_firstFault, tb_in (tt_2 98 rfl) rfl, tb_in (tt_2 99 rfl) rfl, tb_in (tt_2 100 rfl) rfl⟩
theorem ca_X1_27 : CSn RX1 27 mX6_orderOf 1 := ⟨cb_X6_orderOf, ⟨_, List.mem_filter.mpr ⟨tt_2 102 rfl, rfl⟩⟩, tb_in (tt_2 103 rfl) rfl⟩
theorem ca_L_53 : CV RL 53 mX6_enact 0 := ⟨cb_X6_enact, tb_in (tt_2 107 rfl) rfl, tb_in (tt_2 108 rfl) rfl, tb_in (tt_2 109 rfl) rfl⟩
theorem ca_X6_127 : CV RX6 127 mX6_isFaulty 0 := ⟨cb_X6_isFaulty, tb_in (tt_2 111 rfl) rfl, tb_in (tt_2 113 rfl) rfl, tb_in (tp_1 2 rfl) rfl⟩
theorem ca_X6_131 : CV RX6 131 mX1_worldsFrom 1 := ⟨cb_X1_worldsFrom, tb_in (tt_2 115 rfl) rfl, tb_in (tt_2 116 rfl) rfl, tb_in (tt_2 117 rfl) rfl⟩
theorem ca_X1_31 : CS RX1 31 mX1_joined 3 := ⟨cb_X1_joined, tb_in (tt_2 119 rfl) rfl, tb_in (tt_2 120 rfl) rfl⟩
theorem ca_X1_35 : CV RX1 35 mX1_isSoAt 2 := ⟨cb_X1_isSoAt, tb_in (tt_2 123 rfl) rfl, tb_in (tt_2 125 rfl) rfl, tb_in (tp_1 3 rfl) rfl⟩
theorem ca_X1_41 : CS RX1 41 mX1_leafWorlds 1 := ⟨cb_X1_leafWorlds, tb_in (tt_2 127 rfl) rfl, tb_in (tt_2 128 rfl) rfl⟩
theorem ca_X6_135 : CV RX6 135 mX4_allWorlds 0 := ⟨cb_X4_allWorlds, tb_in (tt_2 131 rfl) rfl, tb_in (tt_1 226 rfl) rfl, tb_in (tt_1 227 rfl) rfl⟩
theorem ca_L_57 : CV RL 57 mX6_kept 1 := ⟨cb_X6_kept, tb_in (tt_2 132 rfl) rfl, tb_in (tt_2 133 rfl) rfl, tb_in (tt_2 134 rfl) rfl⟩
theorem ca_X6_143 : CV RX6 143 mX6_wishWorlds 0 := ⟨cb_X6_wishWorlds, tb_in (tt_2 136 rfl) rfl, tb_in (tt_2 138 rfl) rfl, tb_in (tp_1 4 rfl) rfl⟩
theorem ca_X6_187 : CV RX6 187 mX1_saidThings 0 := ⟨cb_X1_saidThings, tb_in (tt_2 140 rfl) rfl, tb_in (tt_2 141 rfl) rfl, tb_in (tt_2 142 rfl) rfl⟩
theorem ca_X6_190 : CV RX6 190 mX4_stillWorlds 2 := ⟨cb_X4_stillWorlds, tb_in (tt_2 144 rfl) rfl, tb_in (tt_2 145 rfl) rfl, tb_in (tt_2 146 rfl) rfl⟩
theorem ca_X4_82 : CS RX4 82 mJ6_bitCount_0f7a4 1 := ⟨cb_J6_bitCount_0f7a4, tb_in (tt_2 148 rfl) rfl, tb_in (tt_2 149 rfl) rfl⟩
theorem ca_X6_146 : CS RX6 146 mJ13_bitCount_95d88 1 := ⟨cb_J13_bitCount_95d88, tb_in (tt_2 154 rfl) rfl, tb_in (tt_2 155 rfl) rfl⟩
theorem ca_X6_152 : CS RX6 152 mX6_lowestOf 1 := ⟨cb_X6_lowestOf, tb_in (tt_2 160 rfl) rfl, tb_in (tt_2 161 rfl) rfl⟩
theorem ca_L_61 : CV RL 61 mX6_makes 0 := ⟨cb_X6_makes, tb_in (tt_2 163 rfl) rfl, tb_in (tt_2 164 rfl) rfl, tb_in (tt_2 165 rfl) rfl⟩
theorem ca_X6_155 : CV RX6 155 mX6_wishOutcome 0 := ⟨cb_X6_wishOutcome, tb_in (tt_2 167 rfl) rfl, tb_in (tt_2 169 rfl) rfl, tb_in (tp_1 5 rfl) rfl⟩
theorem ca_X6_182 : CV RX6 182 mX3_ready 0 := ⟨cb_X3_ready, tb_in (tt_2 171 rfl) rfl, tb_in (tt_2 172 rfl) rfl, tb_in (tt_2 173 rfl) rfl⟩
theorem ca_X3_33 : CSn RX3 33 mX6_fillSums 4 := ⟨cb_X6_fillSums, ⟨_, List.mem_filter.mpr ⟨tt_2 175 rfl, rfl⟩⟩, tb_in (tt_2 176 rfl) rfl⟩
theorem ca_X6_337 : CS RX6 337 mJ6_bitCount_0f7a4 1 := ⟨cb_J6_bitCount_0f7a4, tb_in (tt_2 178 rfl) rfl, tb_in (tt_2 149 rfl) rfl⟩
theorem ca_X6_310 : CV RX6 310 mX3_outcome 2 := ⟨cb_X3_outcome, tb_in (tt_2 182 rfl) rfl, tb_in (tt_2 183 rfl) rfl, tb_in (tt_2 184 rfl) rfl⟩
theorem ca_X3_49 : CSn RX3 49 mX6_leastOf 4 := ⟨cb_X6_leastOf, ⟨_, List.mem_filter.mpr ⟨tt_2 186 rfl, rfl⟩⟩, tb_in (tt_2 187 rfl) rfl⟩
theorem ca_L_65 : CV RL 65 mX6_extreme 3 := ⟨cb_X6_extreme, tb_in (tt_2 189 rfl) rfl, tb_in (tt_2 190 rfl) rfl, tb_in (tt_2 191 rfl) rfl⟩
theorem ca_X6_158 : CS RX6 158 mX6_isBit 1 := ⟨cb_X6_isBit, tb_in (tt_2 193 rfl) rfl, tb_in (tt_2 194 rfl) rfl⟩
theorem ca_X6_161 : CV RX6 161 mX6_refusalOf 2 := ⟨cb_X6_refusalOf, tb_in (tt_2 196 rfl) rfl, tb_in (tt_2 198 rfl) rfl, tb_in (tp_1 6 rfl) rfl⟩
theorem ca_X6_165 : CS RX6 165 mX6_fillSums 4 := ⟨cb_X6_fillSums, tb_in (tt_2 200 rfl) rfl, tb_in (tt_2 176 rfl) rfl⟩
theorem ca_X6_169 : CS RX6 169 mX6_leastOf 4 := ⟨cb_X6_leastOf, tb_in (tt_2 201 rfl) rfl, tb_in (tt_2 187 rfl) rfl⟩
theorem ca_L_69 : CV RL 69 mX6_harmed 0 := ⟨cb_X6_harmed, tb_in (tt_2 202 rfl) rfl, tb_in (tt_2 203 rfl) rfl, tb_in (tt_2 204 rfl) rfl⟩
theorem ca_X6_173 : CV RX6 173 mX6_gainOf 2 := ⟨cb_X6_gainOf, tb_in (tt_2 206 rfl) rfl, tb_in (tt_2 208 rfl) rfl, tb_in (tp_1 7 rfl) rfl⟩
theorem ca_L_73 : CV RL 73 mX6_grant 0 := ⟨cb_X6_grant, tb_in (tt_2 210 rfl) rfl, tb_in (tt_2 211 rfl) rfl, tb_in (tt_2 212 rfl) rfl⟩
theorem ca_X6_176 : CV RX6 176 mX4_remember 1 := ⟨cb_X4_remember, tb_in (tt_2 214 rfl) rfl, tb_in (tt_2 215 rfl) rfl, tb_in (tt_2 216 rfl) rfl⟩
theorem ca_L_77 : CV RL 77 mX6_undo 0 := ⟨cb_X6_undo, tb_in (tt_2 219 rfl) rfl, tb_in (tt_2 220 rfl) rfl, tb_in (tt_2 221 rfl) rfl⟩
theorem ca_L_81 : CV RL 81 mX6_comma 1 := ⟨cb_X6_comma, tb_in (tt_2 223 rfl) rfl, tb_in (tt_2 224 rfl) rfl, tb_in (tt_2 225 rfl) rfl⟩
theorem ca_X6_185 : CV RX6 185 mX0_clear 0 := ⟨cb_X0_clear, tb_in (tt_2 227 rfl) rfl, tb_in (tt_2 228 rfl) rfl, tb_in (tt_2 229 rfl) rfl⟩
theorem ca_X6_194 : CV RX6 194 mX6_tryPlace 2 := ⟨cb_X6_tryPlace, tb_in (tt_2 231 rfl) rfl, tb_in (tt_2 233 rfl) rfl, tb_in (tp_1 8 rfl) rfl⟩
theorem ca_X6_317 : CV RX6 317 mX6_tryChange 3 := ⟨cb_X6_tryChange, tb_in (tt_2 235 rfl) rfl, tb_in (tt_2 237 rfl) rfl, tb_in (tp_1 9 rfl) rfl⟩
theorem ca_X6_205 : CV RX6 205 mX6_signPut 2 := ⟨cb_X6_signPut, tb_in (tt_2 239 rfl) rfl, tb_in (tt_3 1 rfl) rfl, tb_in (tp_1 10 rfl) rfl⟩
theorem ca_X6_327 : CV RX6 327 mX1_copyChanged 3 := ⟨cb_X1_copyChanged, tb_in (tt_3 3 rfl) rfl, tb_in (tt_3 4 rfl) rfl, tb_in (tt_3 5 rfl) rfl⟩
theorem ca_X1_23 : CV RX1 23 mX1_write 1 := ⟨cb_X1_write, tb_in (tt_3 7 rfl) rfl, tb_in (tt_2 83 rfl) rfl, tb_in (tt_2 84 rfl) rfl⟩
theorem ca_X6_219 : CV RX6 219 mX0_offer 2 := ⟨cb_X0_offer, tb_in (tt_3 8 rfl) rfl, tb_in (tt_3 9 rfl) rfl, tb_in (tt_3 10 rfl) rfl⟩
theorem ca_X6_321 : CS RX6 321 mX6_orderOf 1 := ⟨cb_X6_orderOf, tb_in (tt_3 12 rfl) rfl, tb_in (tt_2 103 rfl) rfl⟩
theorem ca_L_85 : CV RL 85 mX6_term 1 := ⟨cb_X6_term, tb_in (tt_3 13 rfl) rfl, tb_in (tt_3 14 rfl) rfl, tb_in (tt_3 15 rfl) rfl⟩
theorem ca_X6_212 : CV RX6 212 mX3_ofTerm 2 := ⟨cb_X3_ofTerm, tb_in (tt_3 17 rfl) rfl, tb_in (tt_3 18 rfl) rfl, tb_in (tt_3 19 rfl) rfl⟩
theorem ca_X3_53 : CV RX3 53 mX3_termWorlds 2 := ⟨cb_X3_termWorlds, tb_in (tt_3 21 rfl) rfl, tb_in (tt_3 23 rfl) rfl, tb_in (tp_1 11 rfl) rfl⟩
theorem ca_X3_93 : CS RX3 93 mJ6_bitCount_0f7a4 1 := ⟨cb_J6_bitCount_0f7a4, tb_in (tt_3 25 rfl) rfl, tb_in (tt_2 149 rfl) rfl⟩
theorem ca_X3_105 : CS RX3 105 mX3_movedBy 2 := ⟨cb_X3_movedBy, tb_in (tt_3 28 rfl) rfl, tb_in (tt_3 29 rfl) rfl⟩
theorem ca_X3_57 : CV RX3 57 mX3_outcome 2 := ⟨cb_X3_outcome, tb_in (tt_3 33 rfl) rfl, tb_in (tt_2 183 rfl) rfl, tb_in (tt_2 184 rfl) rfl⟩
theorem ca_L_89 : CV RL 89 mX6_wording 2 := ⟨cb_X6_wording, tb_in (tt_3 34 rfl) rfl, tb_in (tt_3 35 rfl) rfl, tb_in (tt_3 36 rfl) rfl⟩
theorem ca_X6_216 : CV RX6 216 mX5_rankOf 1 := ⟨cb_X5_rankOf, tb_in (tt_3 38 rfl) rfl, tb_in (tt_3 39 rfl) rfl, tb_in (tt_3 40 rfl) rfl⟩
theorem ca_X5_43 : CV RX5 43 mX5_wordsOf 1 := ⟨cb_X5_wordsOf, tb_in (tt_3 42 rfl) rfl, tb_in (tt_3 43 rfl) rfl, tb_in (tt_3 44 rfl) rfl⟩
theorem ca_X5_37 : CS RX5 37 mJ6_bitCount_0f7a4 1 := ⟨cb_J6_bitCount_0f7a4, tb_in (tt_3 46 rfl) rfl, tb_in (tt_2 149 rfl) rfl⟩
theorem ca_L_93 : CV RL 93 mX6_most 2 := ⟨cb_X6_most, tb_in (tt_3 47 rfl) rfl, tb_in (tt_3 48 rfl) rfl, tb_in (tt_3 49 rfl) rfl⟩
theorem ca_X6_223 : CS RX6 223 mX6_isWords 1 := ⟨cb_X6_isWords, tb_in (tt_3 51 rfl) rfl, tb_in (tt_3 52 rfl) rfl⟩
theorem ca_X6_226 : CV RX6 226 mX5_wordsOf 1 := ⟨cb_X5_wordsOf, tb_in (tt_3 54 rfl) rfl, tb_in (tt_3 43 rfl) rfl, tb_in (tt_3 44 rfl) rfl⟩
theorem ca_L_97 : CV RL 97 mX6_row 3 := ⟨cb_X6_row, tb_in (tt_3 55 rfl) rfl, tb_in (tt_3 56 rfl) rfl, tb_in (tt_3 57 rfl) rfl⟩
theorem ca_X6_229 : CV RX6 229 mX2_drawUp 3 := ⟨cb_X2_drawUp, tb_in (tt_3 59 rfl) rfl, tb_in (tt_3 60 rfl) rfl, tb_in (tt_3 61 rfl) rfl⟩
theorem ca_X2_35 : CV RX2 35 mX4_worldCount 0 := ⟨cb_X4_worldCount, tb_in (tt_3 63 rfl) rfl, tb_in (tt_1 231 rfl) rfl, tb_in (tt_1 232 rfl) rfl⟩
theorem ca_X2_41 : CS RX2 41 mJ6_bitCount_0f7a4 1 := ⟨cb_J6_bitCount_0f7a4, tb_in (tt_3 64 rfl) rfl, tb_in (tt_2 149 rfl) rfl⟩
theorem ca_X2_47 : CV RX2 47 mX2_listStirs 1 := ⟨cb_X2_listStirs, tb_in (tt_3 65 rfl) rfl, tb_in (tt_3 67 rfl) rfl, tb_in (tp_1 12 rfl) rfl⟩
theorem ca_X2_51 : CV RX2 51 mX2_drawUpSaying 3 := ⟨cb_X2_drawUpSaying, tb_in (tt_3 69 rfl) rfl, tb_in (tt_3 71 rfl) rfl, tb_in (tp_1 13 rfl) rfl⟩
theorem ca_X2_66 : CV RX2 66 mX2_worstNear 2 := ⟨cb_X2_worstNear, tb_in (tt_3 73 rfl) rfl, tb_in (tt_3 75 rfl) rfl, tb_in (tp_1 14 rfl) rfl⟩
theorem ca_X2_70 : CV RX2 70 mX5_rankFor 2 := ⟨cb_X5_rankFor, tb_in (tt_3 77 rfl) rfl, tb_in (tt_3 78 rfl) rfl, tb_in (tt_3 79 rfl) rfl⟩
theorem ca_X2_76 : CS RX2 76 mX2_isBetter 4 := ⟨cb_X2_isBetter, tb_in (tt_3 81 rfl) rfl, tb_in (tt_3 82 rfl) rfl⟩
theorem ca_X2_55 : CV RX2 55 mX2_takePart 3 := ⟨cb_X2_takePart, tb_in (tt_3 84 rfl) rfl, tb_in (tt_3 86 rfl) rfl, tb_in (tp_1 15 rfl) rfl⟩
theorem ca_X6_239 : CV RX6 239 mX6_follow 1 := ⟨cb_X6_follow, tb_in (tt_3 89 rfl) rfl, tb_in (tt_3 91 rfl) rfl, tb_in (tp_2 0 rfl) rfl⟩
theorem ca_X6_243 : CV RX6 243 mX6_firstOfRow 2 := ⟨cb_X6_firstOfRow, tb_in (tt_3 93 rfl) rfl, tb_in (tt_3 95 rfl) rfl, tb_in (tp_2 1 rfl) rfl⟩
theorem ca_L_101 : CV RL 101 mX6_lamps 3 := ⟨cb_X6_lamps, tb_in (tt_3 97 rfl) rfl, tb_in (tt_3 98 rfl) rfl, tb_in (tt_3 99 rfl) rfl⟩
theorem ca_L_105 : CV RL 105 mX6_sixths 4 := ⟨cb_X6_sixths, tb_in (tt_3 101 rfl) rfl, tb_in (tt_3 102 rfl) rfl, tb_in (tt_3 103 rfl) rfl⟩
theorem ca_X6_246 : CS RX6 246 mX6_isShare 1 := ⟨cb_X6_isShare, tb_in (tt_3 105 rfl) rfl, tb_in (tt_3 106 rfl) rfl⟩
theorem ca_L_110 : CV RL 110 mX6_votes 0 := ⟨cb_X6_votes, tb_in (tt_3 108 rfl) rfl, tb_in (tt_3 109 rfl) rfl, tb_in (tt_3 110 rfl) rfl⟩
theorem ca_X6_252 : CV RX6 252 mX6_votesFor 1 := ⟨cb_X6_votesFor, tb_in (tt_3 112 rfl) rfl, tb_in (tt_3 114 rfl) rfl, tb_in (tp_2 2 rfl) rfl⟩
theorem ca_L_114 : CV RL 114 mX6_agreed 1 := ⟨cb_X6_agreed, tb_in (tt_3 116 rfl) rfl, tb_in (tt_3 117 rfl) rfl, tb_in (tt_3 118 rfl) rfl⟩
theorem ca_X6_255 : CV RX6 255 mX6_fillMerits 0 := ⟨cb_X6_fillMerits, tb_in (tt_3 120 rfl) rfl, tb_in (tt_3 122 rfl) rfl, tb_in (tp_2 3 rfl) rfl⟩
theorem ca_L_118 : CV RL 118 mX6_paid 0 := ⟨cb_X6_paid, tb_in (tt_3 124 rfl) rfl, tb_in (tt_3 125 rfl) rfl, tb_in (tt_3 126 rfl) rfl⟩
theorem ca_L_122 : CV RL 122 mX6_picked 1 := ⟨cb_X6_picked, tb_in (tt_3 128 rfl) rfl, tb_in (tt_3 129 rfl) rfl, tb_in (tt_3 130 rfl) rfl⟩
theorem ca_X6_261 : CV RX6 261 mX4_canFit 1 := ⟨cb_X4_canFit, tb_in (tt_3 132 rfl) rfl, tb_in (tt_3 133 rfl) rfl, tb_in (tt_3 134 rfl) rfl⟩
theorem ca_X6_264 : CV RX6 264 mX5_tasteTakes 3 := ⟨cb_X5_tasteTakes, tb_in (tt_3 136 rfl) rfl, tb_in (tt_3 137 rfl) rfl, tb_in (tt_3 138 rfl) rfl⟩
theorem ca_X5_46 : CS RX5 46 mJ13_bitCount_95d88 1 := ⟨cb_J13_bitCount_95d88, tb_in (tt_3 140 rfl) rfl, tb_in (tt_2 155 rfl) rfl⟩
theorem ca_X5_51 : CSn RX5 51 mX6_lowestOf 1 := ⟨cb_X6_lowestOf, ⟨_, List.mem_filter.mpr ⟨tt_3 141 rfl, rfl⟩⟩, tb_in (tt_2 161 rfl) rfl⟩
theorem ca_X6_268 : CV RX6 268 mX4_ruleOut 1 := ⟨cb_X4_ruleOut, tb_in (tt_3 142 rfl) rfl, tb_in (tt_3 143 rfl) rfl, tb_in (tt_3 144 rfl) rfl⟩
theorem ca_L_126 : CV RL 126 mX6_fit 1 := ⟨cb_X6_fit, tb_in (tt_3 146 rfl) rfl, tb_in (tt_3 147 rfl) rfl, tb_in (tt_3 148 rfl) rfl⟩
theorem ca_X6_271 : CV RX6 271 mX5_digitOf 2 := ⟨cb_X5_digitOf, tb_in (tt_3 150 rfl) rfl, tb_in (tt_3 151 rfl) rfl, tb_in (tt_3 152 rfl) rfl⟩
theorem ca_L_130 : CV RL 130 mX6_came 2 := ⟨cb_X6_came, tb_in (tt_3 154 rfl) rfl, tb_in (tt_3 155 rfl) rfl, tb_in (tt_3 156 rfl) rfl⟩
theorem ca_L_134 : CV RL 134 mX6_letters 1 := ⟨cb_X6_letters, tb_in (tt_3 158 rfl) rfl, tb_in (tt_3 159 rfl) rfl, tb_in (tt_3 160 rfl) rfl⟩
theorem ca_X6_283 : CV RX6 283 mX3_didAll 1 := ⟨cb_X3_didAll, tb_in (tt_3 162 rfl) rfl, tb_in (tt_3 163 rfl) rfl, tb_in (tt_3 164 rfl) rfl⟩
theorem ca_X3_67 : CV RX3 67 mX3_ofTerm 2 := ⟨cb_X3_ofTerm, tb_in (tt_3 166 rfl) rfl, tb_in (tt_3 18 rfl) rfl, tb_in (tt_3 19 rfl) rfl⟩
theorem ca_L_138 : CV RL 138 mX6_forget 0 := ⟨cb_X6_forget, tb_in (tt_3 167 rfl) rfl, tb_in (tt_3 168 rfl) rfl, tb_in (tt_3 169 rfl) rfl⟩
theorem ca_X6_286 : CV RX6 286 mX4_forgetSights 0 := ⟨cb_X4_forgetSights, tb_in (tt_3 171 rfl) rfl, tb_in (tt_1 235 rfl) rfl, tb_in (tt_1 236 rfl) rfl⟩
theorem ca_L_142 : CV RL 142 mX6_drunk 2 := ⟨cb_X6_drunk, tb_in (tt_3 172 rfl) rfl, tb_in (tt_3 173 rfl) rfl, tb_in (tt_3 174 rfl) rfl⟩
theorem ca_X6_295 : CS RX6 295 mX6_partOf 3 := ⟨cb_X6_partOf, tb_in (tt_3 178 rfl) rfl, tb_in (tt_3 179 rfl) rfl⟩
theorem ca_L_147 : CV RL 147 mX6_mean 2 := ⟨cb_X6_mean, tb_in (tt_3 181 rfl) rfl, tb_in (tt_3 182 rfl) rfl, tb_in (tt_3 183 rfl) rfl⟩
theorem ca_L_151 : CV RL 151 mX6_year 3 := ⟨cb_X6_year, tb_in (tt_3 185 rfl) rfl, tb_in (tt_3 186 rfl) rfl, tb_in (tt_3 187 rfl) rfl⟩
theorem ca_L_155 : CV RL 155 mX6_image 1 := ⟨cb_X6_image, tb_in (tt_3 190 rfl) rfl, tb_in (tt_3 191 rfl) rfl, tb_in (tt_3 192 rfl) rfl⟩
theorem ca_X6_300 : CV RX6 300 mX4_copyFrom 1 := ⟨cb_X4_copyFrom, tb_in (tt_3 194 rfl) rfl, tb_in (tt_3 195 rfl) rfl, tb_in (tt_3 196 rfl) rfl⟩
theorem ca_L_159 : CV RL 159 mX6_restore 1 := ⟨cb_X6_restore, tb_in (tt_3 198 rfl) rfl, tb_in (tt_3 199 rfl) rfl, tb_in (tt_3 200 rfl) rfl⟩
theorem ca_L_163 : CV RL 163 mX6_told 1 := ⟨cb_X6_told, tb_in (tt_3 202 rfl) rfl, tb_in (tt_3 203 rfl) rfl, tb_in (tt_3 204 rfl) rfl⟩
theorem ca_X6_304 : CV RX6 304 mX6_toldPlain 1 := ⟨cb_X6_toldPlain, tb_in (tt_3 206 rfl) rfl, tb_in (tt_3 208 rfl) rfl, tb_in (tp_2 4 rfl) rfl⟩
theorem ca_L_12 : CN RL 12 mX7_init 0 := ⟨cb_X7_init, tb_in (tt_3 212 rfl) rfl, tb_in (tt_3 213 rfl) rfl, rfl, rfl⟩
theorem ca_X7_61 : CV RX7 61 mX7_plain 0 := ⟨cb_X7_plain, tb_in (tt_3 216 rfl) rfl, tb_in (tt_3 218 rfl) rfl, tb_in (tp_2 5 rfl) rfl⟩
theorem ca_X7_76 : CV RX7 76 mX7_all 0 := ⟨cb_X7_all, tb_in (tt_3 220 rfl) rfl, tb_in (tt_3 222 rfl) rfl, tb_in (tp_2 6 rfl) rfl⟩
theorem ca_X7_95 : CV RX7 95 mX7_worlds 0 := ⟨cb_X7_worlds, tb_in (tt_3 225 rfl) rfl, tb_in (tt_3 227 rfl) rfl, tb_in (tp_2 7 rfl) rfl⟩
theorem ca_L_17 : CV RL 17 mX7_things 1 := ⟨cb_X7_things, tb_in (tt_4 78 rfl) rfl, tb_in (tt_4 79 rfl) rfl, tb_in (tt_4 80 rfl) rfl⟩
theorem ca_X7_99 : CS RX7 99 mX7_in 3 := ⟨cb_X7_in, tb_in (tt_4 82 rfl) rfl, tb_in (tt_4 83 rfl) rfl⟩
theorem ca_L_22 : CV RL 22 mX7_worth 3 := ⟨cb_X7_worth, tb_in (tt_4 85 rfl) rfl, tb_in (tt_4 86 rfl) rfl, tb_in (tt_4 87 rfl) rfl⟩
theorem ca_X7_103 : CS RX7 103 mX7_isCousin 1 := ⟨cb_X7_isCousin, tb_in (tt_4 89 rfl) rfl, tb_in (tt_4 90 rfl) rfl⟩
theorem ca_X7_107 : CV RX7 107 mX7_isThing 1 := ⟨cb_X7_isThing, tb_in (tt_4 92 rfl) rfl, tb_in (tt_4 94 rfl) rfl, tb_in (tp_2 8 rfl) rfl⟩
theorem ca_L_27 : CV RL 27 mX7_taste 2 := ⟨cb_X7_taste, tb_in (tt_4 96 rfl) rfl, tb_in (tt_4 97 rfl) rfl, tb_in (tt_4 98 rfl) rfl⟩
theorem ca_L_31 : CV RL 31 mX7_set 2 := ⟨cb_X7_set, tb_in (tt_4 100 rfl) rfl, tb_in (tt_4 101 rfl) rfl, tb_in (tt_4 102 rfl) rfl⟩
theorem ca_L_35 : CV RL 35 mX7_now 1 := ⟨cb_X7_now, tb_in (tt_4 104 rfl) rfl, tb_in (tt_4 105 rfl) rfl, tb_in (tt_4 106 rfl) rfl⟩
theorem ca_X7_110 : CV RX7 110 mX7_isWorld 1 := ⟨cb_X7_isWorld, tb_in (tt_4 108 rfl) rfl, tb_in (tt_4 110 rfl) rfl, tb_in (tp_2 9 rfl) rfl⟩
theorem ca_L_39 : CV RL 39 mX7_worthOf 2 := ⟨cb_X7_worthOf, tb_in (tt_4 112 rfl) rfl, tb_in (tt_4 113 rfl) rfl, tb_in (tt_4 114 rfl) rfl⟩
theorem ca_X7_117 : CV RX7 117 mX7_worthTo 2 := ⟨cb_X7_worthTo, tb_in (tt_4 116 rfl) rfl, tb_in (tt_4 118 rfl) rfl, tb_in (tp_2 10 rfl) rfl⟩
theorem ca_X7_113 : CS RX7 113 mX7_has 2 := ⟨cb_X7_has, tb_in (tt_4 120 rfl) rfl, tb_in (tt_4 121 rfl) rfl⟩
theorem ca_L_43 : CV RL 43 mX7_say 1 := ⟨cb_X7_say, tb_in (tt_4 123 rfl) rfl, tb_in (tt_4 124 rfl) rfl, tb_in (tt_4 125 rfl) rfl⟩
theorem ca_L_48 : CV RL 48 mX7_wipe 0 := ⟨cb_X7_wipe, tb_in (tt_4 127 rfl) rfl, tb_in (tt_4 128 rfl) rfl, tb_in (tt_4 129 rfl) rfl⟩
theorem ca_L_52 : CV RL 52 mX7_fault 0 := ⟨cb_X7_fault, tb_in (tt_4 131 rfl) rfl, tb_in (tt_4 132 rfl) rfl, tb_in (tt_4 133 rfl) rfl⟩
theorem ca_X7_130 : CV RX7 130 mX7_faultOf 0 := ⟨cb_X7_faultOf, tb_in (tt_4 135 rfl) rfl, tb_in (tt_4 137 rfl) rfl, tb_in (tp_2 11 rfl) rfl⟩
theorem ca_X7_124 : CV RX7 124 mX7_isLetter 1 := ⟨cb_X7_isLetter, tb_in (tt_4 139 rfl) rfl, tb_in (tt_4 141 rfl) rfl, tb_in (tp_2 12 rfl) rfl⟩
theorem ca_X7_127 : CS RX7 127 mX7_isPair 1 := ⟨cb_X7_isPair, tb_in (tt_4 143 rfl) rfl, tb_in (tt_4 144 rfl) rfl⟩
theorem ca_L_56 : CV RL 56 mX7_enact 0 := ⟨cb_X7_enact, tb_in (tt_4 146 rfl) rfl, tb_in (tt_4 147 rfl) rfl, tb_in (tt_4 148 rfl) rfl⟩
theorem ca_X7_154 : CV RX7 154 mX7_layPad 0 := ⟨cb_X7_layPad, tb_in (tt_4 150 rfl) rfl, tb_in (tt_4 152 rfl) rfl, tb_in (tp_2 13 rfl) rfl⟩
theorem ca_X7_151 : CV RX7 151 mX7_isSo 2 := ⟨cb_X7_isSo, tb_in (tt_4 154 rfl) rfl, tb_in (tt_4 156 rfl) rfl, tb_in (tp_2 14 rfl) rfl⟩
theorem ca_X7_136 : CV RX7 136 mX7_pairOf 3 := ⟨cb_X7_pairOf, tb_in (tt_4 158 rfl) rfl, tb_in (tt_4 160 rfl) rfl, tb_in (tp_2 15 rfl) rfl⟩
theorem ca_L_60 : CV RL 60 mX7_kept 1 := ⟨cb_X7_kept, tb_in (tt_4 162 rfl) rfl, tb_in (tt_4 163 rfl) rfl, tb_in (tt_4 164 rfl) rfl⟩
theorem ca_X7_157 : CV RX7 157 mX7_keeping 1 := ⟨cb_X7_keeping, tb_in (tt_4 166 rfl) rfl, tb_in (tt_4 168 rfl) rfl, tb_in (tp_3 0 rfl) rfl⟩
theorem ca_X7_140 : CV RX7 140 mX7_saidOf 0 := ⟨cb_X7_saidOf, tb_in (tt_4 170 rfl) rfl, tb_in (tt_4 172 rfl) rfl, tb_in (tp_3 1 rfl) rfl⟩
theorem ca_X7_143 : CS RX7 143 mX7_holds 2 := ⟨cb_X7_holds, tb_in (tt_4 174 rfl) rfl, tb_in (tt_4 175 rfl) rfl⟩
theorem ca_X7_147 : CS RX7 147 mX7_bits 1 := ⟨cb_X7_bits, tb_in (tt_4 177 rfl) rfl, tb_in (tt_4 178 rfl) rfl⟩
theorem ca_X7_161 : CV RX7 161 mX7_count 1 := ⟨cb_X7_count, tb_in (tt_4 180 rfl) rfl, tb_in (tt_4 182 rfl) rfl, tb_in (tp_3 2 rfl) rfl⟩
theorem ca_L_64 : CV RL 64 mX7_makes 0 := ⟨cb_X7_makes, tb_in (tt_4 184 rfl) rfl, tb_in (tt_4 185 rfl) rfl, tb_in (tt_4 186 rfl) rfl⟩
theorem ca_X7_175 : CV RX7 175 mX7_made 0 := ⟨cb_X7_made, tb_in (tt_4 188 rfl) rfl, tb_in (tt_4 190 rfl) rfl, tb_in (tp_3 3 rfl) rfl⟩
theorem ca_X7_171 : CV RX7 171 mX7_madeOf 2 := ⟨cb_X7_madeOf, tb_in (tt_4 192 rfl) rfl, tb_in (tt_4 194 rfl) rfl, tb_in (tp_3 4 rfl) rfl⟩
theorem ca_X7_168 : CV RX7 168 mX7_likes 2 := ⟨cb_X7_likes, tb_in (tt_4 196 rfl) rfl, tb_in (tt_4 198 rfl) rfl, tb_in (tp_3 5 rfl) rfl⟩
theorem ca_X7_165 : CV RX7 165 mX7_tasteOf 1 := ⟨cb_X7_tasteOf, tb_in (tt_4 200 rfl) rfl, tb_in (tt_4 202 rfl) rfl, tb_in (tp_3 6 rfl) rfl⟩
theorem ca_L_68 : CV RL 68 mX7_extreme 3 := ⟨cb_X7_extreme, tb_in (tt_4 204 rfl) rfl, tb_in (tt_4 205 rfl) rfl, tb_in (tt_4 206 rfl) rfl⟩
theorem ca_L_72 : CV RL 72 mX7_harmed 0 := ⟨cb_X7_harmed, tb_in (tt_4 208 rfl) rfl, tb_in (tt_4 209 rfl) rfl, tb_in (tt_4 210 rfl) rfl⟩
theorem ca_L_76 : CV RL 76 mX7_grant 0 := ⟨cb_X7_grant, tb_in (tt_4 212 rfl) rfl, tb_in (tt_4 213 rfl) rfl, tb_in (tt_4 214 rfl) rfl⟩
theorem ca_L_80 : CV RL 80 mX7_undo 0 := ⟨cb_X7_undo, tb_in (tt_4 216 rfl) rfl, tb_in (tt_4 217 rfl) rfl, tb_in (tt_4 218 rfl) rfl⟩
theorem ca_L_84 : CV RL 84 mX7_comma 1 := ⟨cb_X7_comma, tb_in (tt_4 220 rfl) rfl, tb_in (tt_4 221 rfl) rfl, tb_in (tt_4 222 rfl) rfl⟩
theorem ca_X7_178 : CS RX7 178 mX7_pairSign 1 := ⟨cb_X7_pairSign, tb_in (tt_4 224 rfl) rfl, tb_in (tt_4 225 rfl) rfl⟩
theorem ca_L_88 : CV RL 88 mX7_term 1 := ⟨cb_X7_term, tb_in (tt_4 227 rfl) rfl, tb_in (tt_4 228 rfl) rfl, tb_in (tt_4 229 rfl) rfl⟩
theorem ca_X7_201 : CV RX7 201 mX7_terms 0 := ⟨cb_X7_terms, tb_in (tt_4 231 rfl) rfl, tb_in (tt_4 233 rfl) rfl, tb_in (tp_3 7 rfl) rfl⟩
theorem ca_X7_204 : CV RX7 204 mX7_madeOfTerm 2 := ⟨cb_X7_madeOfTerm, tb_in (tt_4 235 rfl) rfl, tb_in (tt_4 237 rfl) rfl, tb_in (tp_3 8 rfl) rfl⟩
theorem ca_X7_197 : CV RX7 197 mX7_keepingTerm 2 := ⟨cb_X7_keepingTerm, tb_in (tt_4 239 rfl) rfl, tb_in (tt_5 1 rfl) rfl, tb_in (tp_3 9 rfl) rfl⟩
theorem ca_X7_190 : CV RX7 190 mX7_layTerm 1 := ⟨cb_X7_layTerm, tb_in (tt_5 3 rfl) rfl, tb_in (tt_5 5 rfl) rfl, tb_in (tp_3 10 rfl) rfl⟩
theorem ca_X7_194 : CV RX7 194 mX7_keepsTerm 2 := ⟨cb_X7_keepsTerm, tb_in (tt_5 7 rfl) rfl, tb_in (tt_5 9 rfl) rfl, tb_in (tp_3 11 rfl) rfl⟩
theorem ca_L_92 : CV RL 92 mX7_wording 2 := ⟨cb_X7_wording, tb_in (tt_5 11 rfl) rfl, tb_in (tt_5 12 rfl) rfl, tb_in (tt_5 13 rfl) rfl⟩
theorem ca_X7_207 : CV RX7 207 mX7_words 1 := ⟨cb_X7_words, tb_in (tt_5 15 rfl) rfl, tb_in (tt_5 17 rfl) rfl, tb_in (tp_3 12 rfl) rfl⟩
theorem ca_X7_181 : CV RX7 181 mX7_digitOf 2 := ⟨cb_X7_digitOf, tb_in (tt_5 19 rfl) rfl, tb_in (tt_5 21 rfl) rfl, tb_in (tp_3 13 rfl) rfl⟩
theorem ca_L_96 : CV RL 96 mX7_most 2 := ⟨cb_X7_most, tb_in (tt_5 23 rfl) rfl, tb_in (tt_5 24 rfl) rfl, tb_in (tt_5 25 rfl) rfl⟩
theorem ca_L_100 : CV RL 100 mX7_row 3 := ⟨cb_X7_row, tb_in (tt_5 27 rfl) rfl, tb_in (tt_5 28 rfl) rfl, tb_in (tt_5 29 rfl) rfl⟩
theorem ca_X7_214 : CV RX7 214 mX7_layAhead 1 := ⟨cb_X7_layAhead, tb_in (tt_5 31 rfl) rfl, tb_in (tt_5 33 rfl) rfl, tb_in (tp_3 14 rfl) rfl⟩
theorem ca_X7_217 : CV RX7 217 mX7_bestFrom 2 := ⟨cb_X7_bestFrom, tb_in (tt_5 35 rfl) rfl, tb_in (tt_5 37 rfl) rfl, tb_in (tp_3 15 rfl) rfl⟩
theorem ca_L_104 : CV RL 104 mX7_lamps 3 := ⟨cb_X7_lamps, tb_in (tt_5 40 rfl) rfl, tb_in (tt_5 41 rfl) rfl, tb_in (tt_5 42 rfl) rfl⟩
theorem ca_L_109 : CV RL 109 mX7_sixths 4 := ⟨cb_X7_sixths, tb_in (tt_5 44 rfl) rfl, tb_in (tt_5 45 rfl) rfl, tb_in (tt_5 46 rfl) rfl⟩
theorem ca_L_113 : CV RL 113 mX7_votes 0 := ⟨cb_X7_votes, tb_in (tt_5 48 rfl) rfl, tb_in (tt_5 49 rfl) rfl, tb_in (tt_5 50 rfl) rfl⟩
theorem ca_X7_220 : CV RX7 220 mX7_votesFor 1 := ⟨cb_X7_votesFor, tb_in (tt_5 52 rfl) rfl, tb_in (tt_5 54 rfl) rfl, tb_in (tp_4 0 rfl) rfl⟩
theorem ca_L_117 : CV RL 117 mX7_agreed 1 := ⟨cb_X7_agreed, tb_in (tt_5 56 rfl) rfl, tb_in (tt_5 57 rfl) rfl, tb_in (tt_5 58 rfl) rfl⟩
theorem ca_X7_224 : CV RX7 224 mX7_worthToAll 1 := ⟨cb_X7_worthToAll, tb_in (tt_5 61 rfl) rfl, tb_in (tt_5 63 rfl) rfl, tb_in (tp_4 1 rfl) rfl⟩
theorem ca_L_121 : CV RL 121 mX7_paid 0 := ⟨cb_X7_paid, tb_in (tt_5 65 rfl) rfl, tb_in (tt_5 66 rfl) rfl, tb_in (tt_5 67 rfl) rfl⟩
theorem ca_L_125 : CV RL 125 mX7_picked 1 := ⟨cb_X7_picked, tb_in (tt_5 69 rfl) rfl, tb_in (tt_5 70 rfl) rfl, tb_in (tt_5 71 rfl) rfl⟩
theorem ca_L_129 : CV RL 129 mX7_fit 1 := ⟨cb_X7_fit, tb_in (tt_5 73 rfl) rfl, tb_in (tt_5 74 rfl) rfl, tb_in (tt_5 75 rfl) rfl⟩
theorem ca_X7_230 : CV RX7 230 mX7_isTaste 1 := ⟨cb_X7_isTaste, tb_in (tt_5 77 rfl) rfl, tb_in (tt_5 79 rfl) rfl, tb_in (tp_4 2 rfl) rfl⟩
theorem ca_X7_227 : CV RX7 227 mX7_tasteBy 2 := ⟨cb_X7_tasteBy, tb_in (tt_5 81 rfl) rfl, tb_in (tt_5 83 rfl) rfl, tb_in (tp_4 3 rfl) rfl⟩
theorem ca_L_133 : CV RL 133 mX7_came 2 := ⟨cb_X7_came, tb_in (tt_5 85 rfl) rfl, tb_in (tt_5 86 rfl) rfl, tb_in (tt_5 87 rfl) rfl⟩
theorem ca_L_137 : CV RL 137 mX7_letters 1 := ⟨cb_X7_letters, tb_in (tt_5 89 rfl) rfl, tb_in (tt_5 90 rfl) rfl, tb_in (tt_5 91 rfl) rfl⟩
theorem ca_L_141 : CV RL 141 mX7_forget 0 := ⟨cb_X7_forget, tb_in (tt_5 93 rfl) rfl, tb_in (tt_5 94 rfl) rfl, tb_in (tt_5 95 rfl) rfl⟩
theorem ca_L_146 : CV RL 146 mX7_drunk 2 := ⟨cb_X7_drunk, tb_in (tt_5 97 rfl) rfl, tb_in (tt_5 98 rfl) rfl, tb_in (tt_5 99 rfl) rfl⟩
theorem ca_X7_239 : CS RX7 239 mX7_least 3 := ⟨cb_X7_least, tb_in (tt_5 104 rfl) rfl, tb_in (tt_5 105 rfl) rfl⟩
theorem ca_L_150 : CV RL 150 mX7_mean 2 := ⟨cb_X7_mean, tb_in (tt_5 107 rfl) rfl, tb_in (tt_5 108 rfl) rfl, tb_in (tt_5 109 rfl) rfl⟩
theorem ca_L_154 : CV RL 154 mX7_year 3 := ⟨cb_X7_year, tb_in (tt_5 111 rfl) rfl, tb_in (tt_5 112 rfl) rfl, tb_in (tt_5 113 rfl) rfl⟩
theorem ca_L_158 : CV RL 158 mX7_image 1 := ⟨cb_X7_image, tb_in (tt_5 116 rfl) rfl, tb_in (tt_5 117 rfl) rfl, tb_in (tt_5 118 rfl) rfl⟩
theorem ca_L_162 : CV RL 162 mX7_restore 1 := ⟨cb_X7_restore, tb_in (tt_5 120 rfl) rfl, tb_in (tt_5 121 rfl) rfl, tb_in (tt_5 122 rfl) rfl⟩
theorem ca_L_166 : CV RL 166 mX7_told 1 := ⟨cb_X7_told, tb_in (tt_5 124 rfl) rfl, tb_in (tt_5 125 rfl) rfl, tb_in (tt_5 126 rfl) rfl⟩
theorem co_X4_70 : Cond.constantLong RX4 70 (-1) ∈ TB := tb_in (tt_1 229 rfl) rfl
theorem co_X5_32 : Cond.constantLong RX5 32 (-1) ∈ TB := tb_in (tt_2 4 rfl) rfl
theorem co_X1_39 : Cond.constantLong RX1 39 (-1) ∈ TB := tb_in (tt_2 122 rfl) rfl
theorem co_J6_265 : Cond.constant RJ6 265 (1431655765) ∈ TB := tb_in (tt_2 151 rfl) rfl
theorem co_J6_266 : Cond.constant RJ6 266 (858993459) ∈ TB := tb_in (tt_2 152 rfl) rfl
theorem co_J6_267 : Cond.constant RJ6 267 (252645135) ∈ TB := tb_in (tt_2 153 rfl) rfl
theorem co_J13_314 : Cond.constantLong RJ13 314 (6148914691236517205) ∈ TB := tb_in (tt_2 157 rfl) rfl
theorem co_J13_316 : Cond.constantLong RJ13 316 (3689348814741910323) ∈ TB := tb_in (tt_2 158 rfl) rfl
theorem co_J13_318 : Cond.constantLong RJ13 318 (1085102592571150095) ∈ TB := tb_in (tt_2 159 rfl) rfl
theorem co_X3_112 : Cond.constantLong RX3 112 (-1) ∈ TB := tb_in (tt_3 32 rfl) rfl
theorem co_X6_289 : Cond.constantLong RX6 289 (-1000000000000000000) ∈ TB := tb_in (tt_3 176 rfl) rfl
theorem co_X6_299 : Cond.constant RX6 299 (65537) ∈ TB := tb_in (tt_3 189 rfl) rfl
theorem co_X7_93 : Cond.constantLong RX7 93 (-1) ∈ TB := tb_in (tt_3 224 rfl) rfl
theorem co_X7_213 : Cond.constant RX7 213 (1000000) ∈ TB := tb_in (tt_5 39 rfl) rfl
theorem co_X7_223 : Cond.constant RX7 223 (100000) ∈ TB := tb_in (tt_5 60 rfl) rfl
theorem co_X7_233 : Cond.constantLong RX7 233 (-1000000000000000001) ∈ TB := tb_in (tt_5 101 rfl) rfl
theorem co_X7_235 : Cond.constantLong RX7 235 (-1000000000000000002) ∈ TB := tb_in (tt_5 102 rfl) rfl
theorem co_X7_237 : Cond.constantLong RX7 237 (-1000000000000000000) ∈ TB := tb_in (tt_5 103 rfl) rfl
theorem co_X7_243 : Cond.constant RX7 243 (65537) ∈ TB := tb_in (tt_5 115 rfl) rfl
