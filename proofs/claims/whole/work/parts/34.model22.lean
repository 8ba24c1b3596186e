theorem dX7_pairSign_0 : decode cX7_pairSign 0 = .ok (.iload_n 0, 1) := by decide +kernel
theorem dX7_pairSign_1 : decode cX7_pairSign 1 = .ok (.ifCond .ne 8, 3) := by decide +kernel
theorem dX7_pairSign_4 : decode cX7_pairSign 4 = .ok (.bipush 38, 2) := by decide +kernel
theorem dX7_pairSign_6 : decode cX7_pairSign 6 = .ok (.goto 35, 3) := by decide +kernel
theorem dX7_pairSign_9 : decode cX7_pairSign 9 = .ok (.iload_n 0, 1) := by decide +kernel
theorem dX7_pairSign_10 : decode cX7_pairSign 10 = .ok (.iconst 1, 1) := by decide +kernel
theorem dX7_pairSign_11 : decode cX7_pairSign 11 = .ok (.if_icmp .ne 8, 3) := by decide +kernel
theorem dX7_pairSign_14 : decode cX7_pairSign 14 = .ok (.bipush 124, 2) := by decide +kernel
theorem dX7_pairSign_16 : decode cX7_pairSign 16 = .ok (.goto 25, 3) := by decide +kernel
theorem dX7_pairSign_19 : decode cX7_pairSign 19 = .ok (.iload_n 0, 1) := by decide +kernel
theorem dX7_pairSign_20 : decode cX7_pairSign 20 = .ok (.iconst 2, 1) := by decide +kernel
theorem dX7_pairSign_21 : decode cX7_pairSign 21 = .ok (.if_icmp .ne 8, 3) := by decide +kernel
theorem dX7_pairSign_24 : decode cX7_pairSign 24 = .ok (.bipush 62, 2) := by decide +kernel
theorem dX7_pairSign_26 : decode cX7_pairSign 26 = .ok (.goto 15, 3) := by decide +kernel
theorem dX7_pairSign_29 : decode cX7_pairSign 29 = .ok (.iload_n 0, 1) := by decide +kernel
theorem dX7_pairSign_30 : decode cX7_pairSign 30 = .ok (.iconst 3, 1) := by decide +kernel
theorem dX7_pairSign_31 : decode cX7_pairSign 31 = .ok (.if_icmp .ne 8, 3) := by decide +kernel
theorem dX7_pairSign_34 : decode cX7_pairSign 34 = .ok (.bipush 61, 2) := by decide +kernel
theorem dX7_pairSign_36 : decode cX7_pairSign 36 = .ok (.goto 5, 3) := by decide +kernel
theorem dX7_pairSign_39 : decode cX7_pairSign 39 = .ok (.bipush 94, 2) := by decide +kernel
theorem dX7_pairSign_41 : decode cX7_pairSign 41 = .ok (.ireturn, 1) := by decide +kernel
theorem dX7_comma_0 : decode cX7_comma 0 = .ok (.iload_n 1, 1) := by decide +kernel
theorem dX7_comma_1 : decode cX7_comma 1 = .ok (.iconst 0, 1) := by decide +kernel
theorem dX7_comma_2 : decode cX7_comma 2 = .ok (.iconst 2, 1) := by decide +kernel
theorem dX7_comma_3 : decode cX7_comma 3 = .ok (.invokestatic 99, 3) := by decide +kernel
theorem dX7_comma_6 : decode cX7_comma 6 = .ok (.ifCond .ne 6, 3) := by decide +kernel
theorem dX7_comma_9 : decode cX7_comma 9 = .ok (.bipush (-2), 2) := by decide +kernel
theorem dX7_comma_11 : decode cX7_comma 11 = .ok (.ireturn, 1) := by decide +kernel
theorem dX7_comma_12 : decode cX7_comma 12 = .ok (.aload_n 0, 1) := by decide +kernel
theorem dX7_comma_13 : decode cX7_comma 13 = .ok (.invokevirtual 130, 3) := by decide +kernel
theorem dX7_comma_16 : decode cX7_comma 16 = .ok (.ifCond .lt 6, 3) := by decide +kernel
theorem dX7_comma_19 : decode cX7_comma 19 = .ok (.bipush (-5), 2) := by decide +kernel
theorem dX7_comma_21 : decode cX7_comma 21 = .ok (.ireturn, 1) := by decide +kernel
theorem dX7_comma_22 : decode cX7_comma 22 = .ok (.bipush (-6), 2) := by decide +kernel
theorem dX7_comma_24 : decode cX7_comma 24 = .ok (.istore_n 2, 1) := by decide +kernel
theorem dX7_comma_25 : decode cX7_comma 25 = .ok (.bipush (-6), 2) := by decide +kernel
theorem dX7_comma_27 : decode cX7_comma 27 = .ok (.istore_n 3, 1) := by decide +kernel
theorem dX7_comma_28 : decode cX7_comma 28 = .ok (.bipush (-6), 2) := by decide +kernel
theorem dX7_comma_30 : decode cX7_comma 30 = .ok (.istore 4, 2) := by decide +kernel
theorem dX7_comma_32 : decode cX7_comma 32 = .ok (.iconst 0, 1) := by decide +kernel
theorem dX7_comma_33 : decode cX7_comma 33 = .ok (.istore 5, 2) := by decide +kernel
theorem dX7_comma_35 : decode cX7_comma 35 = .ok (.iload 5, 2) := by decide +kernel
theorem dX7_comma_37 : decode cX7_comma 37 = .ok (.aload_n 0, 1) := by decide +kernel
theorem dX7_comma_38 : decode cX7_comma 38 = .ok (.getfield 121, 3) := by decide +kernel
theorem dX7_comma_41 : decode cX7_comma 41 = .ok (.if_icmp .ge 212, 3) := by decide +kernel
theorem dX7_comma_44 : decode cX7_comma 44 = .ok (.aload_n 0, 1) := by decide +kernel
theorem dX7_comma_45 : decode cX7_comma 45 = .ok (.getfield 36, 3) := by decide +kernel
theorem dX7_comma_48 : decode cX7_comma 48 = .ok (.iload 5, 2) := by decide +kernel
theorem dX7_comma_50 : decode cX7_comma 50 = .ok (.iaload, 1) := by decide +kernel
theorem dX7_comma_51 : decode cX7_comma 51 = .ok (.invokestatic 127, 3) := by decide +kernel
theorem dX7_comma_54 : decode cX7_comma 54 = .ok (.ifCond .eq 7, 3) := by decide +kernel
theorem dX7_comma_57 : decode cX7_comma 57 = .ok (.iconst 5, 1) := by decide +kernel
theorem dX7_comma_58 : decode cX7_comma 58 = .ok (.goto 20, 3) := by decide +kernel
theorem dX7_comma_61 : decode cX7_comma 61 = .ok (.aload_n 0, 1) := by decide +kernel
theorem dX7_comma_62 : decode cX7_comma 62 = .ok (.getfield 36, 3) := by decide +kernel
theorem dX7_comma_65 : decode cX7_comma 65 = .ok (.iload 5, 2) := by decide +kernel
theorem dX7_comma_67 : decode cX7_comma 67 = .ok (.iaload, 1) := by decide +kernel
theorem dX7_comma_68 : decode cX7_comma 68 = .ok (.bipush 45, 2) := by decide +kernel
theorem dX7_comma_70 : decode cX7_comma 70 = .ok (.if_icmp .ne 7, 3) := by decide +kernel
theorem dX7_comma_73 : decode cX7_comma 73 = .ok (.iconst 1, 1) := by decide +kernel
theorem dX7_comma_74 : decode cX7_comma 74 = .ok (.goto 4, 3) := by decide +kernel
theorem dX7_comma_77 : decode cX7_comma 77 = .ok (.iconst 0, 1) := by decide +kernel
theorem dX7_comma_78 : decode cX7_comma 78 = .ok (.istore 6, 2) := by decide +kernel
theorem dX7_comma_80 : decode cX7_comma 80 = .ok (.iconst 0, 1) := by decide +kernel
theorem dX7_comma_81 : decode cX7_comma 81 = .ok (.istore 7, 2) := by decide +kernel
theorem dX7_comma_83 : decode cX7_comma 83 = .ok (.iload 7, 2) := by decide +kernel
theorem dX7_comma_85 : decode cX7_comma 85 = .ok (.iload 6, 2) := by decide +kernel
theorem dX7_comma_87 : decode cX7_comma 87 = .ok (.if_icmp .ge 160, 3) := by decide +kernel
theorem dX7_comma_90 : decode cX7_comma 90 = .ok (.aload_n 0, 1) := by decide +kernel
theorem dX7_comma_91 : decode cX7_comma 91 = .ok (.invokevirtual 154, 3) := by decide +kernel
theorem dX7_comma_94 : decode cX7_comma 94 = .ok (.iload 6, 2) := by decide +kernel
theorem dX7_comma_96 : decode cX7_comma 96 = .ok (.iconst 5, 1) := by decide +kernel
theorem dX7_comma_97 : decode cX7_comma 97 = .ok (.if_icmp .ne 18, 3) := by decide +kernel
theorem dX7_comma_100 : decode cX7_comma 100 = .ok (.aload_n 0, 1) := by decide +kernel
theorem dX7_comma_101 : decode cX7_comma 101 = .ok (.getfield 39, 3) := by decide +kernel
theorem dX7_comma_104 : decode cX7_comma 104 = .ok (.iload 5, 2) := by decide +kernel
theorem dX7_comma_106 : decode cX7_comma 106 = .ok (.iload 7, 2) := by decide +kernel
theorem dX7_comma_108 : decode cX7_comma 108 = .ok (.invokestatic 178, 3) := by decide +kernel
theorem dX7_comma_111 : decode cX7_comma 111 = .ok (.iastore, 1) := by decide +kernel
theorem dX7_comma_112 : decode cX7_comma 112 = .ok (.goto 48, 3) := by decide +kernel
theorem dX7_comma_115 : decode cX7_comma 115 = .ok (.aload_n 0, 1) := by decide +kernel
theorem dX7_comma_116 : decode cX7_comma 116 = .ok (.dup, 1) := by decide +kernel
theorem dX7_comma_117 : decode cX7_comma 117 = .ok (.getfield 133, 3) := by decide +kernel
theorem dX7_comma_120 : decode cX7_comma 120 = .ok (.iconst 1, 1) := by decide +kernel
theorem dX7_comma_121 : decode cX7_comma 121 = .ok (.isub, 1) := by decide +kernel
theorem dX7_comma_122 : decode cX7_comma 122 = .ok (.putfield 133, 3) := by decide +kernel
theorem dX7_comma_125 : decode cX7_comma 125 = .ok (.iload 5, 2) := by decide +kernel
theorem dX7_comma_127 : decode cX7_comma 127 = .ok (.istore 8, 2) := by decide +kernel
theorem dX7_comma_129 : decode cX7_comma 129 = .ok (.iload 8, 2) := by decide +kernel
theorem dX7_comma_131 : decode cX7_comma 131 = .ok (.aload_n 0, 1) := by decide +kernel
theorem dX7_comma_132 : decode cX7_comma 132 = .ok (.getfield 133, 3) := by decide +kernel
theorem dX7_comma_135 : decode cX7_comma 135 = .ok (.if_icmp .ge 25, 3) := by decide +kernel
theorem dX7_comma_138 : decode cX7_comma 138 = .ok (.aload_n 0, 1) := by decide +kernel
theorem dX7_comma_139 : decode cX7_comma 139 = .ok (.getfield 39, 3) := by decide +kernel
theorem dX7_comma_142 : decode cX7_comma 142 = .ok (.iload 8, 2) := by decide +kernel
theorem dX7_comma_144 : decode cX7_comma 144 = .ok (.aload_n 0, 1) := by decide +kernel
theorem dX7_comma_145 : decode cX7_comma 145 = .ok (.getfield 36, 3) := by decide +kernel
theorem dX7_comma_148 : decode cX7_comma 148 = .ok (.iload 8, 2) := by decide +kernel
theorem dX7_comma_150 : decode cX7_comma 150 = .ok (.iconst 1, 1) := by decide +kernel
theorem dX7_comma_151 : decode cX7_comma 151 = .ok (.iadd, 1) := by decide +kernel
theorem dX7_comma_152 : decode cX7_comma 152 = .ok (.iaload, 1) := by decide +kernel
theorem dX7_comma_153 : decode cX7_comma 153 = .ok (.iastore, 1) := by decide +kernel
theorem dX7_comma_154 : decode cX7_comma 154 = .ok (.iinc 8 1, 3) := by decide +kernel
theorem dX7_comma_157 : decode cX7_comma 157 = .ok (.goto (-28), 3) := by decide +kernel
theorem dX7_comma_160 : decode cX7_comma 160 = .ok (.aload_n 0, 1) := by decide +kernel
theorem dX7_comma_161 : decode cX7_comma 161 = .ok (.aload_n 0, 1) := by decide +kernel
theorem dX7_comma_162 : decode cX7_comma 162 = .ok (.aload_n 0, 1) := by decide +kernel
theorem dX7_comma_163 : decode cX7_comma 163 = .ok (.getfield 73, 3) := by decide +kernel
theorem dX7_comma_166 : decode cX7_comma 166 = .ok (.invokevirtual 157, 3) := by decide +kernel
theorem dX7_comma_169 : decode cX7_comma 169 = .ok (.aload_n 0, 1) := by decide +kernel
theorem dX7_comma_170 : decode cX7_comma 170 = .ok (.getfield 73, 3) := by decide +kernel
theorem dX7_comma_173 : decode cX7_comma 173 = .ok (.invokevirtual 171, 3) := by decide +kernel
theorem dX7_comma_176 : decode cX7_comma 176 = .ok (.istore 8, 2) := by decide +kernel
theorem dX7_comma_178 : decode cX7_comma 178 = .ok (.iload 8, 2) := by decide +kernel
theorem dX7_comma_180 : decode cX7_comma 180 = .ok (.ifCond .lt 61, 3) := by decide +kernel
theorem dX7_comma_183 : decode cX7_comma 183 = .ok (.iload_n 2, 1) := by decide +kernel
theorem dX7_comma_184 : decode cX7_comma 184 = .ok (.ifCond .lt 22, 3) := by decide +kernel
theorem dX7_comma_187 : decode cX7_comma 187 = .ok (.aload_n 0, 1) := by decide +kernel
theorem dX7_comma_188 : decode cX7_comma 188 = .ok (.aload_n 0, 1) := by decide +kernel
theorem dX7_comma_189 : decode cX7_comma 189 = .ok (.getfield 67, 3) := by decide +kernel
theorem dX7_comma_192 : decode cX7_comma 192 = .ok (.iload 8, 2) := by decide +kernel
theorem dX7_comma_194 : decode cX7_comma 194 = .ok (.invokevirtual 117, 3) := by decide +kernel
theorem dX7_comma_197 : decode cX7_comma 197 = .ok (.sipush 1000, 3) := by decide +kernel
theorem dX7_comma_200 : decode cX7_comma 200 = .ok (.iadd, 1) := by decide +kernel
theorem dX7_comma_201 : decode cX7_comma 201 = .ok (.iload 4, 2) := by decide +kernel
theorem dX7_comma_203 : decode cX7_comma 203 = .ok (.if_icmp .le 38, 3) := by decide +kernel
theorem dX7_comma_206 : decode cX7_comma 206 = .ok (.iload 5, 2) := by decide +kernel
theorem dX7_comma_208 : decode cX7_comma 208 = .ok (.istore_n 2, 1) := by decide +kernel
theorem dX7_comma_209 : decode cX7_comma 209 = .ok (.iload 6, 2) := by decide +kernel
theorem dX7_comma_211 : decode cX7_comma 211 = .ok (.iconst 5, 1) := by decide +kernel
theorem dX7_comma_212 : decode cX7_comma 212 = .ok (.if_icmp .ne 11, 3) := by decide +kernel
theorem dX7_comma_215 : decode cX7_comma 215 = .ok (.iload 7, 2) := by decide +kernel
theorem dX7_comma_217 : decode cX7_comma 217 = .ok (.invokestatic 178, 3) := by decide +kernel
theorem dX7_comma_220 : decode cX7_comma 220 = .ok (.goto 4, 3) := by decide +kernel
theorem dX7_comma_223 : decode cX7_comma 223 = .ok (.iconst 0, 1) := by decide +kernel
theorem dX7_comma_224 : decode cX7_comma 224 = .ok (.istore_n 3, 1) := by decide +kernel
theorem dX7_comma_225 : decode cX7_comma 225 = .ok (.aload_n 0, 1) := by decide +kernel
theorem dX7_comma_226 : decode cX7_comma 226 = .ok (.aload_n 0, 1) := by decide +kernel
theorem dX7_comma_227 : decode cX7_comma 227 = .ok (.getfield 67, 3) := by decide +kernel
theorem dX7_comma_230 : decode cX7_comma 230 = .ok (.iload 8, 2) := by decide +kernel
theorem dX7_comma_232 : decode cX7_comma 232 = .ok (.invokevirtual 117, 3) := by decide +kernel
theorem dX7_comma_235 : decode cX7_comma 235 = .ok (.sipush 1000, 3) := by decide +kernel
theorem dX7_comma_238 : decode cX7_comma 238 = .ok (.iadd, 1) := by decide +kernel
theorem dX7_comma_239 : decode cX7_comma 239 = .ok (.istore 4, 2) := by decide +kernel
theorem dX7_comma_241 : decode cX7_comma 241 = .ok (.iinc 7 1, 3) := by decide +kernel
theorem dX7_comma_244 : decode cX7_comma 244 = .ok (.goto (-161), 3) := by decide +kernel
theorem dX7_comma_247 : decode cX7_comma 247 = .ok (.iinc 5 1, 3) := by decide +kernel
theorem dX7_comma_250 : decode cX7_comma 250 = .ok (.goto (-215), 3) := by decide +kernel
theorem dX7_comma_253 : decode cX7_comma 253 = .ok (.iload_n 1, 1) := by decide +kernel
theorem dX7_comma_254 : decode cX7_comma 254 = .ok (.ifCond .ne 7, 3) := by decide +kernel
theorem dX7_comma_257 : decode cX7_comma 257 = .ok (.iload_n 2, 1) := by decide +kernel
theorem dX7_comma_258 : decode cX7_comma 258 = .ok (.goto 14, 3) := by decide +kernel
theorem dX7_comma_261 : decode cX7_comma 261 = .ok (.iload_n 1, 1) := by decide +kernel
theorem dX7_comma_262 : decode cX7_comma 262 = .ok (.iconst 1, 1) := by decide +kernel
theorem dX7_comma_263 : decode cX7_comma 263 = .ok (.if_icmp .ne 7, 3) := by decide +kernel
theorem dX7_comma_266 : decode cX7_comma 266 = .ok (.iload_n 3, 1) := by decide +kernel
theorem dX7_comma_267 : decode cX7_comma 267 = .ok (.goto 5, 3) := by decide +kernel
theorem dX7_comma_270 : decode cX7_comma 270 = .ok (.iload 4, 2) := by decide +kernel
theorem dX7_comma_272 : decode cX7_comma 272 = .ok (.ireturn, 1) := by decide +kernel
def prS (k : Nat) : Int32 := if k = 0 then 38 else if k = 1 then 124 else if k = 2 then 62 else if k = 3 then 61 else 94
theorem prS_pr (k : Nat) : isPr (prS k) = true := by
  unfold prS
  split
  · rfl
  · split
    · rfl
    · split
      · rfl
      · split <;> rfl
def chT (pd : Nat → Int32) (p kd : Nat) : Nat → Int32 := if isPr (pd p) then upd pd p (prS kd) else fun j => if j < p then pd j else pd (j + 1)
def chZ (pd : Nat → Int32) (sg p : Nat) : Nat := if isPr (pd p) then sg else sg - 1
def kdN (s : Int32) : Nat := if isPr s then 5 else if s = 45 then 1 else 0
theorem pr_not {t : Nat} {s : Int32} (h6 : t ≤ 6) (ht2 : 2 ≤ t) (h : isPr s = true) : isLt t s = false ∧ ¬ (s = 48 ∨ s = 49) ∧ ¬ s = 45 ∧ ¬ s = 126 := by
  refine ⟨?_, ?_, ?_, ?_⟩
  · cases hl : isLt t s with
    | false => rfl
    | true => rw [(isLt_not h6 ht2 hl).2.2.2.2] at h; cases h
  · intro e; rcases e with e | e <;> rw [e] at h <;> exact absurd h (by decide)
  · intro e; rw [e] at h; exact absurd h (by decide)
  · intro e; rw [e] at h; exact absurd h (by decide)
def sameC (t : Nat) (s r : Int32) : Prop := isLt t s = isLt t r ∧ ((s = 48 ∨ s = 49) ↔ (r = 48 ∨ r = 49)) ∧ (s = 45 ↔ r = 45) ∧ (s = 126 ↔ r = 126)
theorem sameC_pr {t : Nat} {s r : Int32} (h6 : t ≤ 6) (ht2 : 2 ≤ t) (h : isPr s = true) (h2 : isPr r = true) : sameC t s r := by
  obtain ⟨a1, a2, a3, a4⟩ := pr_not h6 ht2 h
  obtain ⟨b1, b2, b3, b4⟩ := pr_not h6 ht2 h2
  exact ⟨by rw [a1, b1], ⟨fun e => absurd e a2, fun e => absurd e b2⟩, ⟨fun e => absurd e a3, fun e => absurd e b3⟩, ⟨fun e => absurd e a4, fun e => absurd e b4⟩⟩
theorem dpM_s (t : Nat) (tx : Nat → Int32) (sz i : Nat) : dpM t tx sz (i + 1) = (if isLt t (tx (sz - 1 - i)) then dpM t tx sz i + 1 else if tx (sz - 1 - i) = 48 ∨ tx (sz - 1 - i) = 49 then dpM t tx sz i + 1 else if tx (sz - 1 - i) = 45 then dpM t tx sz i else if tx (sz - 1 - i) = 126 then dpM t tx sz i else dpM t tx sz i - 1) := rfl
theorem dpM_cl {t : Nat} {tx ty : Nat → Int32} {sz : Nat} (h : ∀ i, i < sz → sameC t (tx i) (ty i)) : ∀ i, i ≤ sz → dpM t tx sz i = dpM t ty sz i
  | 0, _ => rfl
  | i + 1, hi => by
    obtain ⟨h1, h2, h3, h4⟩ := h (sz - 1 - i) (by omega)
    rw [dpM_s, dpM_s, dpM_cl h i (by omega), h1]
    simp only [h2, h3, h4]
theorem VT_cl {t : Nat} {tx ty : Nat → Int32} {sz : Nat} (h : ∀ i, i < sz → sameC t (tx i) (ty i)) (hv : VT t tx sz) : VT t ty sz := by
  obtain ⟨v1, v2, v3⟩ := hv
  refine ⟨v1, fun i hi => ?_, by rw [← dpM_cl h sz (Nat.le_refl _)]; exact v3⟩
  obtain ⟨h1, h2, h3, h4⟩ := h (sz - 1 - i) (by omega)
  rw [← dpM_cl h i (by omega), ← h1, ← h2, ← h3, ← h4]
  exact v2 i hi
theorem dpM_rm {t : Nat} {tx : Nat → Int32} {sz p : Nat} (h6 : t ≤ 6) (ht2 : 2 ≤ t) (hp : p < sz) (h45 : tx p = 45) : ∀ i, i ≤ sz - 1 → dpM t (fun j => if j < p then tx j else tx (j + 1)) (sz - 1) i = if i ≤ sz - 1 - p then dpM t tx sz i else dpM t tx sz (i + 1)
  | 0, _ => rfl
  | i + 1, hi => by
    have ih := dpM_rm h6 ht2 hp h45 i (by omega)
    have hl : isLt t (tx p) = false := by
      cases hl : isLt t (tx p) with
      | false => rfl
      | true => exact absurd h45 (isLt_not h6 ht2 hl).2.1
    rw [dpM_s, ih]
    by_cases c1 : i + 1 ≤ sz - 1 - p
    · rw [if_pos (show i ≤ sz - 1 - p by omega), if_pos c1, if_neg (show ¬ sz - 1 - 1 - i < p by omega), show sz - 1 - 1 - i + 1 = sz - 1 - i by omega, dpM_s]
    · rw [if_neg c1]
      by_cases c2 : i ≤ sz - 1 - p
      · have hi2 : sz - 1 - i = p := by omega
        rw [if_pos c2, if_pos (show sz - 1 - 1 - i < p by omega), dpM_s t tx sz (i + 1), dpM_s t tx sz i, hi2, hl, h45, show sz - 1 - (i + 1) = sz - 1 - 1 - i by omega]
        rfl
      · rw [if_neg c2, if_pos (show sz - 1 - 1 - i < p by omega), dpM_s t tx sz (i + 1), show sz - 1 - (i + 1) = sz - 1 - 1 - i by omega]
theorem VT_rm {t : Nat} {tx : Nat → Int32} {sz p : Nat} (h6 : t ≤ 6) (ht2 : 2 ≤ t) (hp : p < sz) (h45 : tx p = 45) (hv : VT t tx sz) : VT t (fun j => if j < p then tx j else tx (j + 1)) (sz - 1) := by
  obtain ⟨v1, v2, v3⟩ := hv
  refine ⟨by omega, fun i hi => ?_, ?_⟩
  · rw [dpM_rm h6 ht2 hp h45 i (by omega)]
    dsimp only
    by_cases c1 : i < sz - 1 - p
    · rw [if_pos (show i ≤ sz - 1 - p by omega), if_neg (show ¬ sz - 1 - 1 - i < p by omega), show sz - 1 - 1 - i + 1 = sz - 1 - i by omega]
      exact v2 i (by omega)
    · rw [if_pos (show sz - 1 - 1 - i < p by omega)]
      by_cases c2 : i ≤ sz - 1 - p
      · have hl : isLt t (tx p) = false := by
          cases hl : isLt t (tx p) with
          | false => rfl
          | true => exact absurd h45 (isLt_not h6 ht2 hl).2.1
        have e : dpM t tx sz (i + 1) = dpM t tx sz i := by
          rw [dpM_s, show sz - 1 - i = p by omega, hl, h45]; rfl
        rw [if_pos c2, ← e, show sz - 1 - 1 - i = sz - 1 - (i + 1) by omega]
        exact v2 (i + 1) (by omega)
      · rw [if_neg c2, show sz - 1 - 1 - i = sz - 1 - (i + 1) by omega]
        exact v2 (i + 1) (by omega)
  · rw [dpM_rm h6 ht2 hp h45 (sz - 1) (Nat.le_refl _)]
    by_cases c1 : sz - 1 ≤ sz - 1 - p
    · have hp0 : p = 0 := by omega
      subst hp0
      rw [if_pos c1]
      have hl : isLt t (tx 0) = false := by
        cases hl : isLt t (tx 0) with
        | false => rfl
        | true => exact absurd h45 (isLt_not h6 ht2 hl).2.1
      have e : dpM t tx sz (sz - 1 + 1) = dpM t tx sz (sz - 1) := by
        rw [dpM_s, show sz - 1 - (sz - 1) = 0 by omega, hl, h45]; rfl
      rw [← e, show sz - 1 + 1 = sz by omega]; exact v3
    · rw [if_neg c1, show sz - 1 + 1 = sz by omega]; exact v3
theorem VT_ch {t : Nat} {pd : Nat → Int32} {sg p : Nat} (kd : Nat) (h6 : t ≤ 6) (ht2 : 2 ≤ t) (hp : p < sg) (hk : isPr (pd p) = true ∨ pd p = 45) (hv : VT t pd sg) : VT t (chT pd p kd) (chZ pd sg p) := by
  unfold chT chZ
  cases hpr : isPr (pd p) with
  | true =>
    rw [if_pos rfl, if_pos rfl]
    refine VT_cl (fun i hi => ?_) hv
    by_cases e : i = p
    · subst e
      rw [pk_us]
      exact sameC_pr h6 ht2 hpr (prS_pr kd)
    · rw [pk_un e]
      exact ⟨rfl, Iff.rfl, Iff.rfl, Iff.rfl⟩
  | false =>
    rw [if_neg (by decide), if_neg (by decide)]
    exact VT_rm h6 ht2 hp (hk.resolve_left (by rw [hpr]; decide)) hv
def cmM (I : Nat → Nat → Int32) (J : Nat → Nat → Int64) (t sl wy wi he sg p kd : Nat) : Option Nat := upto (mkF (lkF I t wy wi he) (mk64 (kpM (J 33 8) t sl (chT (I 41) p kd) (chZ (I 41) sg p) he) (2 ^ t))) (2 ^ t) none
abbrev CS3 : Type := Option (Nat × Int32 × Int32)
def cmS (I : Nat → Nat → Int32) (J : Nat → Nat → Int64) (t sl wy wi he sg p : Nat) : Nat → CS3 → CS3 := fun kd o => match cmM I J t sl wy wi he sg p kd with
  | none => o
  | some w => match o with
    | none => some (p, (if isPr (I 41 p) then prS kd else 0), wtF I t wi w + 1000)
    | some x => if x.2.2 < wtF I t wi w + 1000 then some (p, (if isPr (I 41 p) then prS kd else 0), wtF I t wi w + 1000) else some x
def cmF (I : Nat → Nat → Int32) (J : Nat → Nat → Int64) (t sl wy wi he sg : Nat) : Nat → CS3 → CS3 := fun p o => upto (cmS I J t sl wy wi he sg p) (kdN (I 41 p)) o
def cm0 : CS3 → Int32
  | none => -6
  | some x => nI x.1
def cm1 : CS3 → Int32
  | none => -6
  | some x => x.2.1
def cm2 : CS3 → Int32
  | none => -6
  | some x => x.2.2
def TxOK (S : Nat → Nat → Int32) (tx : Nat → Int32) (sz : Nat) : Prop := S 33 18 = nI sz ∧ ∀ k, k < sz → S 42 k = tx k
theorem cmS_lt {I : Nat → Nat → Int32} {J : Nat → Nat → Int64} {t sl wy wi he sg p : Nat} {o : CS3} (h : ∀ x, o = some x → x.1 < 40) (hp : p < 40) : ∀ k x, upto (cmS I J t sl wy wi he sg p) k o = some x → x.1 < 40
  | 0, x, hx => h x hx
  | k + 1, x, hx => by
    have ih := cmS_lt (I := I) (J := J) (t := t) (sl := sl) (wy := wy) (wi := wi) (he := he) (sg := sg) h hp k
    have hx : cmS I J t sl wy wi he sg p k (upto (cmS I J t sl wy wi he sg p) k o) = some x := hx
    generalize upto (cmS I J t sl wy wi he sg p) k o = o2 at hx ih
    unfold cmS at hx
    split at hx
    · exact ih x hx
    · split at hx
      · cases hx; exact hp
      · split at hx
        · cases hx; exact hp
        · exact ih x hx
theorem cmF_lt {I : Nat → Nat → Int32} {J : Nat → Nat → Int64} {t sl wy wi he sg : Nat} : ∀ k, k ≤ 40 → ∀ x, upto (cmF I J t sl wy wi he sg) k none = some x → x.1 < 40
  | 0, _, x, hx => by cases hx
  | k + 1, hk, x, hx => cmS_lt (cmF_lt k (by omega)) (by omega) _ x hx
section MODEL22
variable {xl : Nat} {xs : Nat → Int32} {n : Nat} {h : Nat → PC} {I S : Nat → Nat → Int32} {J T : Nat → Nat → Int64} {X : Nat → Option Nat} {t sl wy wi he sg : Nat}
theorem s_keepT {tx : Nat → Int32} {sz a : Nat} (hn : 49 ≤ n) (hm : MI I t sl wy wi he) (hv : VT t tx sz) (hp : TxOK S tx sz) (ha : a < 64) : RnP xl xs 3 69 mX7_keeping [.ref 33, .int (nI a)] n I S J T X (some (.long (mk64 (kpM (J 33 8) t sl tx sz a) (2 ^ t)))) (fun _ _ => True) := by
  have e := s_X7_keeping (xl := xl) (xs := xs) (n := n) (J := J) (T := T) (X := X) (sz := sz) (a := a) hn hm hp.1 (VT_congr (fun i hi => (hp.2 i hi).symm) hv) ha
  rw [kpM_congr hp.2] at e
  exact rnP_mono e (fun _ _ _ => trivial)
theorem c_X7_pairSign {k : Nat} (hk : k < 5) : Rn xl xs 0 0 0 0 mX7_pairSign [.int (nI k)] n h (some (.int (prS k))) n h := by
  intro Q hQ
  show Ev xl xs 0 0 0 0 mX7_pairSign 0 [some (.int (nI k))] [] n h Q
  refine ev_iload_n (q := 1) dX7_pairSign_0 rfl rfl ?_
  refine ev_if_ne (q := 4) 9 dX7_pairSign_1 (by decide) rfl (fun c_1 => ?_) (fun c_1 => ?_)
  · have c_1 : ¬ k = 0 := fun h => c_1 (by rw [h]; rfl)
    refine ev_iload_n (q := 10) dX7_pairSign_9 rfl rfl ?_
    refine ev_iconst (q := 11) (1) dX7_pairSign_10 (by decide) rfl ?_
    refine ev_icmp_ne (q := 14) 19 dX7_pairSign_11 (by decide) rfl (fun c_11 => ?_) (fun c_11 => ?_)
    · have c_11 : ¬ k = 1 := fun h => c_11 (by rw [h]; rfl)
      refine ev_iload_n (q := 20) dX7_pairSign_19 rfl rfl ?_
      refine ev_iconst (q := 21) (2) dX7_pairSign_20 (by decide) rfl ?_
      refine ev_icmp_ne (q := 24) 29 dX7_pairSign_21 (by decide) rfl (fun c_21 => ?_) (fun c_21 => ?_)
      · have c_21 : ¬ k = 2 := fun h => c_21 (by rw [h]; rfl)
        refine ev_iload_n (q := 30) dX7_pairSign_29 rfl rfl ?_
        refine ev_iconst (q := 31) (3) dX7_pairSign_30 (by decide) rfl ?_
        refine ev_icmp_ne (q := 34) 39 dX7_pairSign_31 (by decide) rfl (fun c_31 => ?_) (fun c_31 => ?_)
        · have c_31 : ¬ k = 3 := fun h => c_31 (by rw [h]; rfl)
          refine ev_bipush (q := 41) (94) dX7_pairSign_39 (by decide) rfl ?_
          exact ev_iretE dX7_pairSign_41 rfl rfl (by simp [prS, *]) rfl rfl hQ
        · have c_31 : k = 3 := (nI_eq (b := 3) (by omega) (by omega)).mp c_31
          refine ev_bipush (q := 36) (61) dX7_pairSign_34 (by decide) rfl ?_
          refine ev_goto 41 dX7_pairSign_36 (by decide) ?_
          exact ev_iretE dX7_pairSign_41 rfl rfl (by simp [prS, *]) rfl rfl hQ
      · have c_21 : k = 2 := (nI_eq (b := 2) (by omega) (by omega)).mp c_21
        refine ev_bipush (q := 26) (62) dX7_pairSign_24 (by decide) rfl ?_
        refine ev_goto 41 dX7_pairSign_26 (by decide) ?_
        exact ev_iretE dX7_pairSign_41 rfl rfl (by simp [prS, *]) rfl rfl hQ
    · have c_11 : k = 1 := (nI_eq (b := 1) (by omega) (by omega)).mp c_11
      refine ev_bipush (q := 16) (124) dX7_pairSign_14 (by decide) rfl ?_
      refine ev_goto 41 dX7_pairSign_16 (by decide) ?_
      exact ev_iretE dX7_pairSign_41 rfl rfl (by simp [prS, *]) rfl rfl hQ
  · have c_1 : k = 0 := (nI_eq (b := 0) (by omega) (by omega)).mp c_1
    refine ev_bipush (q := 6) (38) dX7_pairSign_4 (by decide) rfl ?_
    refine ev_goto 41 dX7_pairSign_6 (by decide) ?_
    exact ev_iretE dX7_pairSign_41 rfl rfl (by simp [prS, *]) rfl rfl hQ
theorem s_X7_comma_f (hn : 49 ≤ n) {v : Int32} (hv : inb v 0 2 = false) : RnS xl xs 4 95 0 0 mX7_comma [.ref 33, .int v] n I J X (some (.int (-2))) n I J X := by
  intro S T Q hQ
  show Ev xl xs 4 95 0 0 mX7_comma 0 [some (.ref 33), some (.int v), none, none, none, none, none, none, none] [] n (sysH (ov I S) (ovJ J T) X) Q
  refine ev_iload_n (q := 1) dX7_comma_0 rfl rfl ?_
  refine ev_iconst (q := 2) (0) dX7_comma_1 (by decide) rfl ?_
  refine ev_iconst (q := 3) (2) dX7_comma_2 (by decide) rfl ?_
  refine ev_callS3i (q := 6) dX7_comma_3 ca_X7_99 (c_X7_in _ _ _) (Nat.le_of_ble_eq_true rfl) (Nat.le_of_ble_eq_true rfl) (by decide) (by decide) rfl ?_
  refine ev_if_ne (q := 9) 12 dX7_comma_6 (by decide) rfl (fun c_6 => ?_) (fun c_6 => ?_)
  · exact absurd (b2i_ne.mp c_6) (by rw [hv]; decide)
  · refine ev_bipush (q := 11) (-2) dX7_comma_9 (by decide) rfl ?_
    exact ev_iretE dX7_comma_11 rfl rfl rfl rfl rfl (hQ _ _)
theorem s_X7_comma_n (hn : 49 ≤ n) (hm : MI I t sl wy wi he) (hsg : I 33 16 = nI sg) (h40 : sg ≤ 40) {v : Int32} (hv : inb v 0 2 = true) (hf : ¬ ffP I t sg = -6) : RnS xl xs 4 95 0 0 mX7_comma [.ref 33, .int v] n I J X (some (.int (-5))) n I J X := by
  intro S T Q hQ
  show Ev xl xs 4 95 0 0 mX7_comma 0 [some (.ref 33), some (.int v), none, none, none, none, none, none, none] [] n (sysH (ov I S) (ovJ J T) X) Q
  rcases ffP_or I t sg with hf2 | ⟨m, hm40, hf2⟩
  · exact absurd hf2 hf
  · have hff : ffM t (I 41) sg sg 0 1 false = nI m := hf2
    refine ev_iload_n (q := 1) dX7_comma_0 rfl rfl ?_
    refine ev_iconst (q := 2) (0) dX7_comma_1 (by decide) rfl ?_
    refine ev_iconst (q := 3) (2) dX7_comma_2 (by decide) rfl ?_
    refine ev_callS3i (q := 6) dX7_comma_3 ca_X7_99 (c_X7_in _ _ _) (Nat.le_of_ble_eq_true rfl) (Nat.le_of_ble_eq_true rfl) (by decide) (by decide) rfl ?_
    refine ev_if_ne (q := 9) 12 dX7_comma_6 (by decide) rfl (fun c_6 => ?_) (fun c_6 => ?_)
    · refine ev_aload_n (q := 13) dX7_comma_12 rfl rfl ?_
      refine ev_callV0i (q := 16) dX7_comma_13 ca_X7_130 (s_X7_faultOf hn hm hsg h40) rfl (lt_n hn (by decide)) rfl rfl (Nat.le_of_ble_eq_true rfl) (Nat.le_of_ble_eq_true rfl) (by decide) (by decide) rfl ?_
      rw [hff]
      refine ev_if_lt (q := 19) 22 dX7_comma_16 (by decide) rfl (fun c_16 => ?_) (fun c_16 => ?_)
      · exact absurd c_16 (nI_pos (by omega))
      · refine ev_bipush (q := 21) (-5) dX7_comma_19 (by decide) rfl ?_
        exact ev_iretE dX7_comma_21 rfl rfl rfl rfl rfl (hQ _ _)
    · exact absurd c_6 (b2i_n0.mpr hv)
theorem s_X7_comma (hn : 49 ≤ n) (hm : MI I t sl wy wi he) (hsg : I 33 16 = nI sg) (h40 : sg ≤ 40) {v : Int32} (hv : inb v 0 2 = true) (hf : ffP I t sg = -6) : RnS xl xs 4 95 0 0 mX7_comma [.ref 33, .int v] n I J X (some (.int (if v = 0 then cm0 (upto (cmF I J t sl wy wi he sg) sg none) else if v = 1 then cm1 (upto (cmF I J t sl wy wi he sg) sg none) else cm2 (upto (cmF I J t sl wy wi he sg) sg none)))) n I J X := by
  intro S T Q hQ
  have hm' := hm
  obtain ⟨ht, ht2, h6, hs, hs6, hwy, h3, hwi, h4, hhe, hhl⟩ := hm'
  have h64 := p2_le h6
  have hvt := ffM_VT h6 ht2 h40 hf
  have hff : ffM t (I 41) sg sg 0 1 false = -6 := hf
  show Ev xl xs 4 95 0 0 mX7_comma 0 [some (.ref 33), some (.int v), none, none, none, none, none, none, none] [] n (sysH (ov I S) (ovJ J T) X) Q
  have inn : ∀ p o, p < sg → (∀ x, o = some x → x.1 < 40) → (∀ S T o2 a6 a7 a8, o2 = upto (cmS I J t sl wy wi he sg p) (kdN (I 41 p)) o → Ev xl xs 4 95 0 0 mX7_comma 247 [some (.ref 33), some (.int v), some (.int (cm0 o2)), some (.int (cm1 o2)), some (.int (cm2 o2)), some (.int (nI p)), a6, a7, a8] [] n (sysH (ov I S) (ovJ J T) X) Q) → ∀ j k, k + j = kdN (I 41 p) → ∀ S T a8, Ev xl xs 4 95 0 0 mX7_comma 83 [some (.ref 33), some (.int v), some (.int (cm0 (upto (cmS I J t sl wy wi he sg p) k o))), some (.int (cm1 (upto (cmS I J t sl wy wi he sg p) k o))), some (.int (cm2 (upto (cmS I J t sl wy wi he sg p) k o))), some (.int (nI p)), some (.int (nI (kdN (I 41 p)))), some (.int (nI k)), a8] [] n (sysH (ov I S) (ovJ J T) X) Q := by
    intro p o hp ho hout j
    have hkd5 : kdN (I 41 p) ≤ 5 := by unfold kdN; split; omega; split <;> omega
    induction j using Nat.strongRecOn with
    | _ j ih =>
      intro k hk S T a8
      have e : ∀ h1, _ := fun (h1 : j - 1 < j) => ih (j - 1) h1 (k + 1)
      have hlt := cmS_lt (I := I) (J := J) (t := t) (sl := sl) (wy := wy) (wi := wi) (he := he) (sg := sg) ho (show p < 40 by omega) k
      by_cases hkd : k < kdN (I 41 p)
      · have hkind : isPr (I 41 p) = true ∨ I 41 p = 45 := by
          unfold kdN at hkd
          cases hpr : isPr (I 41 p) with
          | true => exact Or.inl rfl
          | false =>
            rw [hpr] at hkd
            by_cases h45 : I 41 p = 45
            · exact Or.inr h45
            · rw [if_neg (by decide), if_neg h45] at hkd; omega
        have hvc := VT_ch k h6 ht2 hp hkind hvt
        have e := e (by omega) (by omega)
        simp only [upto] at e
        have J160 : ∀ S T a8, TxOK S (chT (I 41) p k) (chZ (I 41) sg p) → Ev xl xs 4 95 0 0 mX7_comma 160 [some (.ref 33), some (.int v), some (.int (cm0 (upto (cmS I J t sl wy wi he sg p) k o))), some (.int (cm1 (upto (cmS I J t sl wy wi he sg p) k o))), some (.int (cm2 (upto (cmS I J t sl wy wi he sg p) k o))), some (.int (nI p)), some (.int (nI (kdN (I 41 p)))), some (.int (nI k)), a8] [] n (sysH (ov I S) (ovJ J T) X) Q := by
          intro S T a8 hok
          generalize upto (cmS I J t sl wy wi he sg p) k o = o2 at e hlt ⊢
          cases hmk : cmM I J t sl wy wi he sg p k with
          | none =>
            have hmk2 := hmk
            unfold cmM at hmk2
            simp only [cmS, hmk] at e
            refine ev_aload_n (q := 161) dX7_comma_160 rfl rfl ?_
            refine ev_aload_n (q := 162) dX7_comma_161 rfl rfl ?_
            refine ev_aload_n (q := 163) dX7_comma_162 rfl rfl ?_
            refine ev_get (q := 166) dX7_comma_163 fr_X7_73 rfl (lt_n hn (by decide)) rfl rfl ?_
            rw [show ov I S 33 7 = nI he from hhe]
            refine ev_callV1lP (q := 169) dX7_comma_166 ca_X7_157 (s_keepT hn hm hvc hok (by omega)) rfl (lt_n hn (by decide)) rfl rfl (Nat.le_of_ble_eq_true rfl) (Nat.le_of_ble_eq_true rfl) (by decide) (by decide) rfl (fun S T hp_166 => ?_)
            refine ev_aload_n (q := 170) dX7_comma_169 rfl rfl ?_
            refine ev_get (q := 173) dX7_comma_170 fr_X7_73 rfl (lt_n hn (by decide)) rfl rfl ?_
            rw [show ov I S 33 7 = nI he from hhe]
            refine ev_callV2i (q := 176) dX7_comma_173 ca_X7_171 (s_X7_madeOf hn hm (by omega)) rfl (lt_n hn (by decide)) rfl rfl (Nat.le_of_ble_eq_true rfl) (Nat.le_of_ble_eq_true rfl) (by decide) (by decide) rfl ?_
            rw [hmk2]
            refine ev_ist_8 (q := 178) dX7_comma_176 rfl rfl ?_
            refine ev_iload (q := 180) dX7_comma_178 rfl rfl ?_
            refine ev_if_lt (q := 183) 241 dX7_comma_180 (by decide) rfl (fun c_180 => ?_) (fun c_180 => ?_)
            · refine ev_inc_7 (q := 244) (nI (k + 1)) dX7_comma_241 (nI_1 k) rfl rfl ?_
              refine ev_goto 83 dX7_comma_244 (by decide) ?_
              exact e _ _ _
            · exact absurd (show (-6 : Int32) < 0 by decide) c_180
          | some w =>
            have hmk2 := hmk
            unfold cmM at hmk2
            have hw := mkF_lt _ _ hmk2
            simp only [cmS, hmk] at e
            have J206 : (∀ S T a8, Ev xl xs 4 95 0 0 mX7_comma 83 [some (.ref 33), some (.int v), some (.int (nI p)), some (.int (if isPr (I 41 p) then prS k else 0)), some (.int (wtF I t wi w + 1000)), some (.int (nI p)), some (.int (nI (kdN (I 41 p)))), some (.int (nI (k + 1))), a8] [] n (sysH (ov I S) (ovJ J T) X) Q) → ∀ S T, Ev xl xs 4 95 0 0 mX7_comma 206 [some (.ref 33), some (.int v), some (.int (cm0 o2)), some (.int (cm1 o2)), some (.int (cm2 o2)), some (.int (nI p)), some (.int (nI (kdN (I 41 p)))), some (.int (nI k)), some (.int (nI w))] [] n (sysH (ov I S) (ovJ J T) X) Q := by
              intro e S T
              cases hpr : isPr (I 41 p) with
              | true =>
                have hk5 : kdN (I 41 p) = 5 := by unfold kdN; rw [hpr, if_pos rfl]
                rw [hpr, if_pos rfl, hk5] at e
                rw [hk5] at hkd ⊢
                refine ev_iload (q := 208) dX7_comma_206 rfl rfl ?_
                refine ev_ist_2 (q := 209) dX7_comma_208 rfl rfl ?_
                refine ev_iload (q := 211) dX7_comma_209 rfl rfl ?_
                refine ev_iconst (q := 212) (5) dX7_comma_211 (by decide) rfl ?_
                refine ev_icmp_ne (q := 215) 223 dX7_comma_212 (by decide) rfl (fun c_212 => ?_) (fun c_212 => ?_)
                · exact absurd rfl c_212
                · refine ev_iload (q := 217) dX7_comma_215 rfl rfl ?_
                  refine ev_callS1i (q := 220) dX7_comma_217 ca_X7_178 (c_X7_pairSign (by omega)) (Nat.le_of_ble_eq_true rfl) (Nat.le_of_ble_eq_true rfl) (by decide) (by decide) rfl ?_
                  refine ev_goto 224 dX7_comma_220 (by decide) ?_
                  refine ev_ist_3 (q := 225) dX7_comma_224 rfl rfl ?_
                  refine ev_aload_n (q := 226) dX7_comma_225 rfl rfl ?_
                  refine ev_aload_n (q := 227) dX7_comma_226 rfl rfl ?_
                  refine ev_get (q := 230) dX7_comma_227 fr_X7_67 rfl (lt_n hn (by decide)) rfl rfl ?_
                  refine ev_iload (q := 232) dX7_comma_230 rfl rfl ?_
                  rw [show ov I S 33 5 = nI wi from hwi]
                  refine ev_callV2i (q := 235) dX7_comma_232 ca_X7_117 (s_X7_worthTo hn hm (by omega) (by omega)) rfl (lt_n hn (by decide)) rfl rfl (Nat.le_of_ble_eq_true rfl) (Nat.le_of_ble_eq_true rfl) (by decide) (by decide) rfl ?_
                  refine ev_sipush (q := 238) (1000) dX7_comma_235 (by decide) rfl ?_
                  refine ev_iadd (q := 239) dX7_comma_238 rfl ?_
                  refine ev_ist_4 (q := 241) dX7_comma_239 rfl rfl ?_
                  refine ev_inc_7 (q := 244) (nI (k + 1)) dX7_comma_241 (nI_1 k) rfl rfl ?_
                  refine ev_goto 83 dX7_comma_244 (by decide) ?_
                  exact e _ _ _
              | false =>
                have hk5 : kdN (I 41 p) = 1 := by unfold kdN; rw [hpr, if_neg (by decide), if_pos (hkind.resolve_left (by rw [hpr]; decide))]
                rw [hpr, if_neg (by decide), hk5] at e
                rw [hk5] at hkd ⊢
                refine ev_iload (q := 208) dX7_comma_206 rfl rfl ?_
                refine ev_ist_2 (q := 209) dX7_comma_208 rfl rfl ?_
                refine ev_iload (q := 211) dX7_comma_209 rfl rfl ?_
                refine ev_iconst (q := 212) (5) dX7_comma_211 (by decide) rfl ?_
                refine ev_icmp_ne (q := 215) 223 dX7_comma_212 (by decide) rfl (fun c_212 => ?_) (fun c_212 => ?_)
                · refine ev_iconst (q := 224) (0) dX7_comma_223 (by decide) rfl ?_
                  refine ev_ist_3 (q := 225) dX7_comma_224 rfl rfl ?_
                  refine ev_aload_n (q := 226) dX7_comma_225 rfl rfl ?_
                  refine ev_aload_n (q := 227) dX7_comma_226 rfl rfl ?_
                  refine ev_get (q := 230) dX7_comma_227 fr_X7_67 rfl (lt_n hn (by decide)) rfl rfl ?_
                  refine ev_iload (q := 232) dX7_comma_230 rfl rfl ?_
                  rw [show ov I S 33 5 = nI wi from hwi]
                  refine ev_callV2i (q := 235) dX7_comma_232 ca_X7_117 (s_X7_worthTo hn hm (by omega) (by omega)) rfl (lt_n hn (by decide)) rfl rfl (Nat.le_of_ble_eq_true rfl) (Nat.le_of_ble_eq_true rfl) (by decide) (by decide) rfl ?_
                  refine ev_sipush (q := 238) (1000) dX7_comma_235 (by decide) rfl ?_
                  refine ev_iadd (q := 239) dX7_comma_238 rfl ?_
                  refine ev_ist_4 (q := 241) dX7_comma_239 rfl rfl ?_
                  refine ev_inc_7 (q := 244) (nI (k + 1)) dX7_comma_241 (nI_1 k) rfl rfl ?_
                  refine ev_goto 83 dX7_comma_244 (by decide) ?_
                  exact e _ _ _
                · exact absurd c_212 (by decide)
            cases ho2 : o2 with
            | none =>
              rw [ho2] at e J206
              refine ev_aload_n (q := 161) dX7_comma_160 rfl rfl ?_
              refine ev_aload_n (q := 162) dX7_comma_161 rfl rfl ?_
              refine ev_aload_n (q := 163) dX7_comma_162 rfl rfl ?_
              refine ev_get (q := 166) dX7_comma_163 fr_X7_73 rfl (lt_n hn (by decide)) rfl rfl ?_
              rw [show ov I S 33 7 = nI he from hhe]
              refine ev_callV1lP (q := 169) dX7_comma_166 ca_X7_157 (s_keepT hn hm hvc hok (by omega)) rfl (lt_n hn (by decide)) rfl rfl (Nat.le_of_ble_eq_true rfl) (Nat.le_of_ble_eq_true rfl) (by decide) (by decide) rfl (fun S T hp_166 => ?_)
              refine ev_aload_n (q := 170) dX7_comma_169 rfl rfl ?_
              refine ev_get (q := 173) dX7_comma_170 fr_X7_73 rfl (lt_n hn (by decide)) rfl rfl ?_
              rw [show ov I S 33 7 = nI he from hhe]
              refine ev_callV2i (q := 176) dX7_comma_173 ca_X7_171 (s_X7_madeOf hn hm (by omega)) rfl (lt_n hn (by decide)) rfl rfl (Nat.le_of_ble_eq_true rfl) (Nat.le_of_ble_eq_true rfl) (by decide) (by decide) rfl ?_
              rw [hmk2]
              refine ev_ist_8 (q := 178) dX7_comma_176 rfl rfl ?_
              refine ev_iload (q := 180) dX7_comma_178 rfl rfl ?_
              refine ev_if_lt (q := 183) 241 dX7_comma_180 (by decide) rfl (fun c_180 => ?_) (fun c_180 => ?_)
              · exact absurd c_180 (nI_pos (by omega))
              · refine ev_iload_n (q := 184) dX7_comma_183 rfl rfl ?_
                refine ev_if_lt (q := 187) 206 dX7_comma_184 (by decide) rfl (fun c_184 => ?_) (fun c_184 => ?_)
                · exact J206 e _ _
                · exact absurd neg6 c_184
            | some x =>
              have hx := hlt x ho2
              rw [ho2] at e J206
              by_cases hlt2 : x.2.2 < wtF I t wi w + 1000
              · simp only [hlt2, if_true] at e
                refine ev_aload_n (q := 161) dX7_comma_160 rfl rfl ?_
                refine ev_aload_n (q := 162) dX7_comma_161 rfl rfl ?_
                refine ev_aload_n (q := 163) dX7_comma_162 rfl rfl ?_
                refine ev_get (q := 166) dX7_comma_163 fr_X7_73 rfl (lt_n hn (by decide)) rfl rfl ?_
                rw [show ov I S 33 7 = nI he from hhe]
                refine ev_callV1lP (q := 169) dX7_comma_166 ca_X7_157 (s_keepT hn hm hvc hok (by omega)) rfl (lt_n hn (by decide)) rfl rfl (Nat.le_of_ble_eq_true rfl) (Nat.le_of_ble_eq_true rfl) (by decide) (by decide) rfl (fun S T hp_166 => ?_)
                refine ev_aload_n (q := 170) dX7_comma_169 rfl rfl ?_
                refine ev_get (q := 173) dX7_comma_170 fr_X7_73 rfl (lt_n hn (by decide)) rfl rfl ?_
                rw [show ov I S 33 7 = nI he from hhe]
                refine ev_callV2i (q := 176) dX7_comma_173 ca_X7_171 (s_X7_madeOf hn hm (by omega)) rfl (lt_n hn (by decide)) rfl rfl (Nat.le_of_ble_eq_true rfl) (Nat.le_of_ble_eq_true rfl) (by decide) (by decide) rfl ?_
                rw [hmk2]
                refine ev_ist_8 (q := 178) dX7_comma_176 rfl rfl ?_
                refine ev_iload (q := 180) dX7_comma_178 rfl rfl ?_
                refine ev_if_lt (q := 183) 241 dX7_comma_180 (by decide) rfl (fun c_180 => ?_) (fun c_180 => ?_)
                · exact absurd c_180 (nI_pos (by omega))
                · refine ev_iload_n (q := 184) dX7_comma_183 rfl rfl ?_
                  refine ev_if_lt (q := 187) 206 dX7_comma_184 (by decide) rfl (fun c_184 => ?_) (fun c_184 => ?_)
                  · exact absurd c_184 (nI_pos (by omega))
                  · refine ev_aload_n (q := 188) dX7_comma_187 rfl rfl ?_
                    refine ev_aload_n (q := 189) dX7_comma_188 rfl rfl ?_
                    refine ev_get (q := 192) dX7_comma_189 fr_X7_67 rfl (lt_n hn (by decide)) rfl rfl ?_
                    refine ev_iload (q := 194) dX7_comma_192 rfl rfl ?_
                    rw [show ov I S 33 5 = nI wi from hwi]
                    refine ev_callV2i (q := 197) dX7_comma_194 ca_X7_117 (s_X7_worthTo (w := w) hn hm (by omega) (by omega)) rfl (lt_n hn (by decide)) rfl rfl (Nat.le_of_ble_eq_true rfl) (Nat.le_of_ble_eq_true rfl) (by decide) (by decide) rfl ?_
                    refine ev_sipush (q := 200) (1000) dX7_comma_197 (by decide) rfl ?_
                    refine ev_iadd (q := 201) dX7_comma_200 rfl ?_
                    refine ev_iload (q := 203) dX7_comma_201 rfl rfl ?_
                    refine ev_icmp_le (q := 206) 241 dX7_comma_203 (by decide) rfl (fun c_203 => ?_) (fun c_203 => ?_)
                    · exact absurd (show wtF I t wi w + 1000 ≤ x.2.2 from c_203) (by simp only [i_le, i_lt] at *; omega)
                    · exact J206 e _ _
              · simp only [hlt2, if_false] at e
                refine ev_aload_n (q := 161) dX7_comma_160 rfl rfl ?_
                refine ev_aload_n (q := 162) dX7_comma_161 rfl rfl ?_
                refine ev_aload_n (q := 163) dX7_comma_162 rfl rfl ?_
                refine ev_get (q := 166) dX7_comma_163 fr_X7_73 rfl (lt_n hn (by decide)) rfl rfl ?_
                rw [show ov I S 33 7 = nI he from hhe]
                refine ev_callV1lP (q := 169) dX7_comma_166 ca_X7_157 (s_keepT hn hm hvc hok (by omega)) rfl (lt_n hn (by decide)) rfl rfl (Nat.le_of_ble_eq_true rfl) (Nat.le_of_ble_eq_true rfl) (by decide) (by decide) rfl (fun S T hp_166 => ?_)
                refine ev_aload_n (q := 170) dX7_comma_169 rfl rfl ?_
                refine ev_get (q := 173) dX7_comma_170 fr_X7_73 rfl (lt_n hn (by decide)) rfl rfl ?_
                rw [show ov I S 33 7 = nI he from hhe]
                refine ev_callV2i (q := 176) dX7_comma_173 ca_X7_171 (s_X7_madeOf hn hm (by omega)) rfl (lt_n hn (by decide)) rfl rfl (Nat.le_of_ble_eq_true rfl) (Nat.le_of_ble_eq_true rfl) (by decide) (by decide) rfl ?_
                rw [hmk2]
                refine ev_ist_8 (q := 178) dX7_comma_176 rfl rfl ?_
                refine ev_iload (q := 180) dX7_comma_178 rfl rfl ?_
                refine ev_if_lt (q := 183) 241 dX7_comma_180 (by decide) rfl (fun c_180 => ?_) (fun c_180 => ?_)
                · exact absurd c_180 (nI_pos (by omega))
                · refine ev_iload_n (q := 184) dX7_comma_183 rfl rfl ?_
                  refine ev_if_lt (q := 187) 206 dX7_comma_184 (by decide) rfl (fun c_184 => ?_) (fun c_184 => ?_)
                  · exact absurd c_184 (nI_pos (by omega))
                  · refine ev_aload_n (q := 188) dX7_comma_187 rfl rfl ?_
                    refine ev_aload_n (q := 189) dX7_comma_188 rfl rfl ?_
                    refine ev_get (q := 192) dX7_comma_189 fr_X7_67 rfl (lt_n hn (by decide)) rfl rfl ?_
                    refine ev_iload (q := 194) dX7_comma_192 rfl rfl ?_
                    rw [show ov I S 33 5 = nI wi from hwi]
                    refine ev_callV2i (q := 197) dX7_comma_194 ca_X7_117 (s_X7_worthTo (w := w) hn hm (by omega) (by omega)) rfl (lt_n hn (by decide)) rfl rfl (Nat.le_of_ble_eq_true rfl) (Nat.le_of_ble_eq_true rfl) (by decide) (by decide) rfl ?_
                    refine ev_sipush (q := 200) (1000) dX7_comma_197 (by decide) rfl ?_
                    refine ev_iadd (q := 201) dX7_comma_200 rfl ?_
                    refine ev_iload (q := 203) dX7_comma_201 rfl rfl ?_
                    refine ev_icmp_le (q := 206) 241 dX7_comma_203 (by decide) rfl (fun c_203 => ?_) (fun c_203 => ?_)
                    · refine ev_inc_7 (q := 244) (nI (k + 1)) dX7_comma_241 (nI_1 k) rfl rfl ?_
                      refine ev_goto 83 dX7_comma_244 (by decide) ?_
                      exact e _ _ _
                    · exact absurd (show wtF I t wi w + 1000 ≤ x.2.2 by simp only [i_le, i_lt] at *; omega) c_203
        cases hpr : isPr (I 41 p) with
        | true =>
          have hk5 : kdN (I 41 p) = 5 := by unfold kdN; rw [hpr, if_pos rfl]
          rw [hk5] at hkd J160 ⊢
          have hok : ∀ S, TxOK (setI (lpS S sg (I 41)) 42 (upd (lpS S sg (I 41) 42) p (prS k))) (chT (I 41) p k) (chZ (I 41) sg p) := by
            intro S
            unfold chT chZ
            rw [hpr, if_pos rfl, if_pos rfl]
            refine ⟨rfl, fun i hi => ?_⟩
            show upd (lpS S sg (I 41) 42) p (prS k) i = _
            by_cases e9 : i = p
            · subst e9; rw [pk_us, pk_us]
            · rw [pk_un e9, pk_un e9]; exact fillA_at hi
          refine ev_iload (q := 85) dX7_comma_83 rfl rfl ?_
          refine ev_iload (q := 87) dX7_comma_85 rfl rfl ?_
          refine ev_icmp_ge (q := 90) 247 dX7_comma_87 (by decide) rfl (fun c_87 => ?_) (fun c_87 => ?_)
          · exact absurd ((nI_leI (a := 5) (by omega) (by omega)).mp c_87) (by omega)
          · refine ev_aload_n (q := 91) dX7_comma_90 rfl rfl ?_
            refine ev_callV0v (q := 94) dX7_comma_91 ca_X7_154 (s_X7_layPad hn hm hsg h40) rfl (lt_n hn (by decide)) rfl rfl (Nat.le_of_ble_eq_true rfl) (Nat.le_of_ble_eq_true rfl) (by decide) (by decide) rfl ?_
            refine ev_iload (q := 96) dX7_comma_94 rfl rfl ?_
            refine ev_iconst (q := 97) (5) dX7_comma_96 (by decide) rfl ?_
            refine ev_icmp_ne (q := 100) 115 dX7_comma_97 (by decide) rfl (fun c_97 => ?_) (fun c_97 => ?_)
            · exact absurd rfl c_97
            · refine ev_aload_n (q := 101) dX7_comma_100 rfl rfl ?_
              refine ev_get (q := 104) dX7_comma_101 fr_X7_39 rfl (lt_n hn (by decide)) rfl rfl ?_
              refine ev_iload (q := 106) dX7_comma_104 rfl rfl ?_
              refine ev_iload (q := 108) dX7_comma_106 rfl rfl ?_
              refine ev_callS1i (q := 111) dX7_comma_108 ca_X7_178 (c_X7_pairSign (by omega)) (Nat.le_of_ble_eq_true rfl) (Nat.le_of_ble_eq_true rfl) (by decide) (by decide) rfl ?_
              first | refine ev_isK (q := 112) p dX7_comma_111 rfl rfl (by omega) (lt_n hn (by decide)) rfl rfl ?_ | refine ev_isR (q := 112) p dX7_comma_111 rfl rfl (by omega) (lt_n hn (by decide)) rfl rfl ?_
              refine ev_goto 160 dX7_comma_112 (by decide) ?_
              exact J160 _ _ _ (hok S)
        | false =>
          have hk5 : kdN (I 41 p) = 1 := by unfold kdN; rw [hpr, if_neg (by decide), if_pos (hkind.resolve_left (by rw [hpr]; decide))]
          rw [hk5] at hkd J160 ⊢
          have cpl : ∀ j i, i + j = sg - 1 → p ≤ i → ∀ S T, S 33 18 = nI (sg - 1) → (∀ q, q < i → S 42 q = chT (I 41) p k q) → Ev xl xs 4 95 0 0 mX7_comma 129 [some (.ref 33), some (.int v), some (.int (cm0 (upto (cmS I J t sl wy wi he sg p) k o))), some (.int (cm1 (upto (cmS I J t sl wy wi he sg p) k o))), some (.int (cm2 (upto (cmS I J t sl wy wi he sg p) k o))), some (.int (nI p)), some (.int (nI 1)), some (.int (nI k)), some (.int (nI i))] [] n (sysH (ov I S) (ovJ J T) X) Q := by
            intro j
            induction j using Nat.strongRecOn with
            | _ j ih2 =>
              intro i hi hpi S T e18 e42
              have e2 : ∀ h1, _ := fun (h1 : j - 1 < j) => ih2 (j - 1) h1 (i + 1)
              refine ev_iload (q := 131) dX7_comma_129 rfl rfl ?_
              refine ev_aload_n (q := 132) dX7_comma_131 rfl rfl ?_
              refine ev_get (q := 135) dX7_comma_132 fr_X7_133 rfl (lt_n hn (by decide)) rfl rfl ?_
              rw [show ov I S 33 18 = nI (sg - 1) from e18]
              refine ev_icmp_ge (q := 138) 160 dX7_comma_135 (by decide) rfl (fun c_135 => ?_) (fun c_135 => ?_)
              · have c_135 : sg - 1 ≤ i := (nI_leI (by omega) (by omega)).mp c_135
                exact J160 _ _ _ ⟨by rw [e18]; unfold chZ; rw [hpr]; rfl, fun q hq => e42 q (by unfold chZ at hq; rw [hpr, if_neg (by decide)] at hq; omega)⟩
              · have c_135 : ¬ sg - 1 ≤ i := fun h => c_135 ((nI_leI (by omega) (by omega)).mpr h)
                refine ev_aload_n (q := 139) dX7_comma_138 rfl rfl ?_
                refine ev_get (q := 142) dX7_comma_139 fr_X7_39 rfl (lt_n hn (by decide)) rfl rfl ?_
                refine ev_iload (q := 144) dX7_comma_142 rfl rfl ?_
                refine ev_aload_n (q := 145) dX7_comma_144 rfl rfl ?_
                refine ev_get (q := 148) dX7_comma_145 fr_X7_36 rfl (lt_n hn (by decide)) rfl rfl ?_
                refine ev_iload (q := 150) dX7_comma_148 rfl rfl ?_
                refine ev_iconst (q := 151) (1) dX7_comma_150 (by decide) rfl ?_
                refine ev_iadd (q := 152) dX7_comma_151 rfl ?_
                refine ev_iaS (q := 153) (i + 1) dX7_comma_152 (nI_1 i) rfl (by omega) (lt_n hn (by decide)) rfl ?_
                first | refine ev_isK (q := 154) i dX7_comma_153 rfl rfl (by omega) (lt_n hn (by decide)) rfl rfl ?_ | refine ev_isR (q := 154) i dX7_comma_153 rfl rfl (by omega) (lt_n hn (by decide)) rfl rfl ?_
                refine ev_inc_8 (q := 157) (nI (i + 1)) dX7_comma_154 (nI_1 i) rfl rfl ?_
                refine ev_goto 129 dX7_comma_157 (by decide) ?_
                exact e2 (by omega) (by omega) (by omega) _ _ (by exact e18) (by intro q hq; by_cases hqi : q = i; (subst hqi; refine (pk_us).trans ?_; unfold chT; rw [hpr, if_neg (by decide), if_neg (by omega)]; rfl); exact (pk_un hqi).trans (e42 q (by omega)))
          refine ev_iload (q := 85) dX7_comma_83 rfl rfl ?_
          refine ev_iload (q := 87) dX7_comma_85 rfl rfl ?_
          refine ev_icmp_ge (q := 90) 247 dX7_comma_87 (by decide) rfl (fun c_87 => ?_) (fun c_87 => ?_)
          · exact absurd ((nI_leI (a := 1) (by omega) (by omega)).mp c_87) (by omega)
          · refine ev_aload_n (q := 91) dX7_comma_90 rfl rfl ?_
            refine ev_callV0v (q := 94) dX7_comma_91 ca_X7_154 (s_X7_layPad hn hm hsg h40) rfl (lt_n hn (by decide)) rfl rfl (Nat.le_of_ble_eq_true rfl) (Nat.le_of_ble_eq_true rfl) (by decide) (by decide) rfl ?_
            refine ev_iload (q := 96) dX7_comma_94 rfl rfl ?_
            refine ev_iconst (q := 97) (5) dX7_comma_96 (by decide) rfl ?_
            refine ev_icmp_ne (q := 100) 115 dX7_comma_97 (by decide) rfl (fun c_97 => ?_) (fun c_97 => ?_)
            · refine ev_aload_n (q := 116) dX7_comma_115 rfl rfl ?_
              refine ev_dup (q := 117) (fun _ => rfl) dX7_comma_116 rfl ?_
              refine ev_get (q := 120) dX7_comma_117 fr_X7_133 rfl (lt_n hn (by decide)) rfl rfl ?_
              refine ev_iconst (q := 121) (1) dX7_comma_120 (by decide) rfl ?_
              refine ev_isub (q := 122) dX7_comma_121 rfl ?_
              rw [show ov I (lpS S sg (I 41)) 33 18 - 1 = nI (sg - 1) from pk_sub (a := sg) (b := 1) (by omega)]
              first | refine ev_putIK (q := 125) dX7_comma_122 fa_X7_133 rfl (by decide) (lt_n hn (by decide)) (Nat.le_of_ble_eq_true rfl) ⟨rfl, rfl⟩ rfl rfl rfl ?_ | refine ev_putIR (q := 125) dX7_comma_122 fa_X7_133 rfl (by decide) (lt_n hn (by decide)) (Nat.le_of_ble_eq_true rfl) ⟨rfl, rfl⟩ rfl rfl rfl ?_
              refine ev_iload (q := 127) dX7_comma_125 rfl rfl ?_
              refine ev_ist_8 (q := 129) dX7_comma_127 rfl rfl ?_
              exact cpl (sg - 1 - p) p (by omega) (Nat.le_refl _) _ _ rfl (fun q hq => (show lpS S sg (I 41) 42 q = _ from by rw [show lpS S sg (I 41) 42 q = I 41 q from fillA_at (by omega)]; unfold chT; rw [hpr, if_neg (by decide), if_pos hq]))
            · exact absurd c_97 (by decide)
      · have hk2 : k = kdN (I 41 p) := by omega
        rw [hk2]
        refine ev_iload (q := 85) dX7_comma_83 rfl rfl ?_
        refine ev_iload (q := 87) dX7_comma_85 rfl rfl ?_
        refine ev_icmp_ge (q := 90) 247 dX7_comma_87 (by decide) rfl (fun c_87 => ?_) (fun c_87 => ?_)
        · exact hout _ _ _ _ _ _ rfl
        · exact absurd ((nI_leI (by omega) (by omega)).mpr (Nat.le_refl _)) c_87
  have lp : ∀ j p, p + j = sg → ∀ S T a6 a7 a8, Ev xl xs 4 95 0 0 mX7_comma 35 [some (.ref 33), some (.int v), some (.int (cm0 (upto (cmF I J t sl wy wi he sg) p none))), some (.int (cm1 (upto (cmF I J t sl wy wi he sg) p none))), some (.int (cm2 (upto (cmF I J t sl wy wi he sg) p none))), some (.int (nI p)), a6, a7, a8] [] n (sysH (ov I S) (ovJ J T) X) Q := by
    intro j
    induction j using Nat.strongRecOn with
    | _ j ih =>
      intro p hp S T a6 a7 a8
      have e : ∀ h1, _ := fun (h1 : j - 1 < j) => ih (j - 1) h1 (p + 1)
      have nx : ¬ sg ≤ p → ∀ S T o2 a6 a7 a8, o2 = upto (cmS I J t sl wy wi he sg p) (kdN (I 41 p)) (upto (cmF I J t sl wy wi he sg) p none) → Ev xl xs 4 95 0 0 mX7_comma 247 [some (.ref 33), some (.int v), some (.int (cm0 o2)), some (.int (cm1 o2)), some (.int (cm2 o2)), some (.int (nI p)), a6, a7, a8] [] n (sysH (ov I S) (ovJ J T) X) Q := by
        intro hps S T o2 a6 a7 a8 ho2
        subst ho2
        have e := e (by omega) (by omega)
        refine ev_inc_5 (q := 250) (nI (p + 1)) dX7_comma_247 (nI_1 p) rfl rfl ?_
        refine ev_goto 35 dX7_comma_250 (by decide) ?_
        exact e _ _ _ _ _
      have J78 : ¬ sg ≤ p → ∀ x, x = nI (kdN (I 41 p)) → Ev xl xs 4 95 0 0 mX7_comma 78 [some (.ref 33), some (.int v), some (.int (cm0 (upto (cmF I J t sl wy wi he sg) p none))), some (.int (cm1 (upto (cmF I J t sl wy wi he sg) p none))), some (.int (cm2 (upto (cmF I J t sl wy wi he sg) p none))), some (.int (nI p)), a6, a7, a8] [.int x] n (sysH (ov I S) (ovJ J T) X) Q := by
        intro hps x hx
        subst hx
        refine ev_ist_6 (q := 80) dX7_comma_78 rfl rfl ?_
        refine ev_iconst (q := 81) (0) dX7_comma_80 (by decide) rfl ?_
        refine ev_ist_7 (q := 83) dX7_comma_81 rfl rfl ?_
        exact inn p _ (by omega) (cmF_lt p (by omega)) (nx hps) (kdN (I 41 p)) 0 (by omega) _ _ _
      refine ev_iload (q := 37) dX7_comma_35 rfl rfl ?_
      refine ev_aload_n (q := 38) dX7_comma_37 rfl rfl ?_
      refine ev_get (q := 41) dX7_comma_38 fr_X7_121 rfl (lt_n hn (by decide)) rfl rfl ?_
      rw [show ov I S 33 16 = nI sg from hsg]
      refine ev_icmp_ge (q := 44) 253 dX7_comma_41 (by decide) rfl (fun c_41 => ?_) (fun c_41 => ?_)
      · have c_41 : sg ≤ p := (nI_leI (by omega) (by omega)).mp c_41
        rw [show p = sg by omega]
        refine ev_iload_n (q := 254) dX7_comma_253 rfl rfl ?_
        refine ev_if_ne (q := 257) 261 dX7_comma_254 (by decide) rfl (fun c_254 => ?_) (fun c_254 => ?_)
        · have c_254 : ¬ v = 0 := c_254
          refine ev_iload_n (q := 262) dX7_comma_261 rfl rfl ?_
          refine ev_iconst (q := 263) (1) dX7_comma_262 (by decide) rfl ?_
          refine ev_icmp_ne (q := 266) 270 dX7_comma_263 (by decide) rfl (fun c_263 => ?_) (fun c_263 => ?_)
          · have c_263 : ¬ v = 1 := c_263
            refine ev_iload (q := 272) dX7_comma_270 rfl rfl ?_
            exact ev_iretE dX7_comma_272 rfl rfl (by first | (rw [if_pos c_254]; done) | (rw [if_neg c_254, if_pos c_263]; done) | (rw [if_neg c_254, if_neg c_263])) rfl rfl (hQ _ _)
          · have c_263 : v = 1 := c_263
            refine ev_iload_n (q := 267) dX7_comma_266 rfl rfl ?_
            refine ev_goto 272 dX7_comma_267 (by decide) ?_
            exact ev_iretE dX7_comma_272 rfl rfl (by first | (rw [if_pos c_254]; done) | (rw [if_neg c_254, if_pos c_263]; done) | (rw [if_neg c_254, if_neg c_263])) rfl rfl (hQ _ _)
        · have c_254 : v = 0 := c_254
          refine ev_iload_n (q := 258) dX7_comma_257 rfl rfl ?_
          refine ev_goto 272 dX7_comma_258 (by decide) ?_
          exact ev_iretE dX7_comma_272 rfl rfl (by first | (rw [if_pos c_254]; done) | (rw [if_neg c_254, if_pos c_263]; done) | (rw [if_neg c_254, if_neg c_263])) rfl rfl (hQ _ _)
      · have c_41 : ¬ sg ≤ p := fun h => c_41 ((nI_leI (by omega) (by omega)).mpr h)
        refine ev_aload_n (q := 45) dX7_comma_44 rfl rfl ?_
        refine ev_get (q := 48) dX7_comma_45 fr_X7_36 rfl (lt_n hn (by decide)) rfl rfl ?_
        refine ev_iload (q := 50) dX7_comma_48 rfl rfl ?_
        refine ev_iaS (q := 51) p dX7_comma_50 rfl rfl (by omega) (lt_n hn (by decide)) rfl ?_
        refine ev_callS1i (q := 54) dX7_comma_51 ca_X7_127 (c_X7_isPair _) (Nat.le_of_ble_eq_true rfl) (Nat.le_of_ble_eq_true rfl) (by decide) (by decide) rfl ?_
        refine ev_if_eq (q := 57) 61 dX7_comma_54 (by decide) rfl (fun c_54 => ?_) (fun c_54 => ?_)
        · have c_54 : isPr (I 41 p) = false := b2i_0.mp c_54
          refine ev_aload_n (q := 62) dX7_comma_61 rfl rfl ?_
          refine ev_get (q := 65) dX7_comma_62 fr_X7_36 rfl (lt_n hn (by decide)) rfl rfl ?_
          refine ev_iload (q := 67) dX7_comma_65 rfl rfl ?_
          refine ev_iaS (q := 68) p dX7_comma_67 rfl rfl (by omega) (lt_n hn (by decide)) rfl ?_
          refine ev_bipush (q := 70) (45) dX7_comma_68 (by decide) rfl ?_
          refine ev_icmp_ne (q := 73) 77 dX7_comma_70 (by decide) rfl (fun c_70 => ?_) (fun c_70 => ?_)
          · have c_70 : ¬ I 41 p = 45 := c_70
            refine ev_iconst (q := 78) (0) dX7_comma_77 (by decide) rfl ?_
            first | exact J78 c_41 _ (by unfold kdN; rw [c_54, if_pos rfl]; rfl) | exact J78 c_41 _ (by unfold kdN; rw [c_54, if_neg (by decide), if_pos c_70]; rfl) | exact J78 c_41 _ (by unfold kdN; rw [c_54, if_neg (by decide), if_neg c_70]; rfl)
          · have c_70 : I 41 p = 45 := c_70
            refine ev_iconst (q := 74) (1) dX7_comma_73 (by decide) rfl ?_
            refine ev_goto 78 dX7_comma_74 (by decide) ?_
            first | exact J78 c_41 _ (by unfold kdN; rw [c_54, if_pos rfl]; rfl) | exact J78 c_41 _ (by unfold kdN; rw [c_54, if_neg (by decide), if_pos c_70]; rfl) | exact J78 c_41 _ (by unfold kdN; rw [c_54, if_neg (by decide), if_neg c_70]; rfl)
        · have c_54 : isPr (I 41 p) = true := b2i_n0.mp c_54
          refine ev_iconst (q := 58) (5) dX7_comma_57 (by decide) rfl ?_
          refine ev_goto 78 dX7_comma_58 (by decide) ?_
          first | exact J78 c_41 _ (by unfold kdN; rw [c_54, if_pos rfl]; rfl) | exact J78 c_41 _ (by unfold kdN; rw [c_54, if_neg (by decide), if_pos c_70]; rfl) | exact J78 c_41 _ (by unfold kdN; rw [c_54, if_neg (by decide), if_neg c_70]; rfl)
  refine ev_iload_n (q := 1) dX7_comma_0 rfl rfl ?_
  refine ev_iconst (q := 2) (0) dX7_comma_1 (by decide) rfl ?_
  refine ev_iconst (q := 3) (2) dX7_comma_2 (by decide) rfl ?_
  refine ev_callS3i (q := 6) dX7_comma_3 ca_X7_99 (c_X7_in _ _ _) (Nat.le_of_ble_eq_true rfl) (Nat.le_of_ble_eq_true rfl) (by decide) (by decide) rfl ?_
  refine ev_if_ne (q := 9) 12 dX7_comma_6 (by decide) rfl (fun c_6 => ?_) (fun c_6 => ?_)
  · refine ev_aload_n (q := 13) dX7_comma_12 rfl rfl ?_
    refine ev_callV0i (q := 16) dX7_comma_13 ca_X7_130 (s_X7_faultOf hn hm hsg h40) rfl (lt_n hn (by decide)) rfl rfl (Nat.le_of_ble_eq_true rfl) (Nat.le_of_ble_eq_true rfl) (by decide) (by decide) rfl ?_
    rw [hff]
    refine ev_if_lt (q := 19) 22 dX7_comma_16 (by decide) rfl (fun c_16 => ?_) (fun c_16 => ?_)
    · refine ev_bipush (q := 24) (-6) dX7_comma_22 (by decide) rfl ?_
      refine ev_ist_2 (q := 25) dX7_comma_24 rfl rfl ?_
      refine ev_bipush (q := 27) (-6) dX7_comma_25 (by decide) rfl ?_
      refine ev_ist_3 (q := 28) dX7_comma_27 rfl rfl ?_
      refine ev_bipush (q := 30) (-6) dX7_comma_28 (by decide) rfl ?_
      refine ev_ist_4 (q := 32) dX7_comma_30 rfl rfl ?_
      refine ev_iconst (q := 33) (0) dX7_comma_32 (by decide) rfl ?_
      refine ev_ist_5 (q := 35) dX7_comma_33 rfl rfl ?_
      exact lp sg 0 (by omega) _ _ _ _ _
    · exact absurd neg6 c_16
  · exact absurd c_6 (b2i_n0.mpr hv)
end MODEL22
