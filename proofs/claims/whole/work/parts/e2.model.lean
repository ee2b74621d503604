/-! ===== the reference: burning, light, aimed ===== -/
theorem dX13_burning_0 : decode cX13_burning 0 = .ok (.iconst 0, 1) := by decide +kernel
theorem dX13_burning_1 : decode cX13_burning 1 = .ok (.istore_n 1, 1) := by decide +kernel
theorem dX13_burning_2 : decode cX13_burning 2 = .ok (.iconst 0, 1) := by decide +kernel
theorem dX13_burning_3 : decode cX13_burning 3 = .ok (.istore_n 2, 1) := by decide +kernel
theorem dX13_burning_4 : decode cX13_burning 4 = .ok (.iload_n 2, 1) := by decide +kernel
theorem dX13_burning_5 : decode cX13_burning 5 = .ok (.aload_n 0, 1) := by decide +kernel
theorem dX13_burning_6 : decode cX13_burning 6 = .ok (.invokevirtual 426, 3) := by decide +kernel
theorem dX13_burning_9 : decode cX13_burning 9 = .ok (.if_icmp .ge 18, 3) := by decide +kernel
theorem dX13_burning_12 : decode cX13_burning 12 = .ok (.iload_n 1, 1) := by decide +kernel
theorem dX13_burning_13 : decode cX13_burning 13 = .ok (.aload_n 0, 1) := by decide +kernel
theorem dX13_burning_14 : decode cX13_burning 14 = .ok (.getfield 108, 3) := by decide +kernel
theorem dX13_burning_17 : decode cX13_burning 17 = .ok (.iload_n 2, 1) := by decide +kernel
theorem dX13_burning_18 : decode cX13_burning 18 = .ok (.iaload, 1) := by decide +kernel
theorem dX13_burning_19 : decode cX13_burning 19 = .ok (.iadd, 1) := by decide +kernel
theorem dX13_burning_20 : decode cX13_burning 20 = .ok (.istore_n 1, 1) := by decide +kernel
theorem dX13_burning_21 : decode cX13_burning 21 = .ok (.iinc 2 1, 3) := by decide +kernel
theorem dX13_burning_24 : decode cX13_burning 24 = .ok (.goto (-20), 3) := by decide +kernel
theorem dX13_burning_27 : decode cX13_burning 27 = .ok (.iload_n 1, 1) := by decide +kernel
theorem dX13_burning_28 : decode cX13_burning 28 = .ok (.ireturn, 1) := by decide +kernel
theorem dX13_light_0 : decode cX13_light 0 = .ok (.aload_n 0, 1) := by decide +kernel
theorem dX13_light_1 : decode cX13_light 1 = .ok (.iconst 0, 1) := by decide +kernel
theorem dX13_light_2 : decode cX13_light 2 = .ok (.putfield 423, 3) := by decide +kernel
theorem dX13_light_5 : decode cX13_light 5 = .ok (.iconst 0, 1) := by decide +kernel
theorem dX13_light_6 : decode cX13_light 6 = .ok (.istore_n 1, 1) := by decide +kernel
theorem dX13_light_7 : decode cX13_light 7 = .ok (.iload_n 1, 1) := by decide +kernel
theorem dX13_light_8 : decode cX13_light 8 = .ok (.aload_n 0, 1) := by decide +kernel
theorem dX13_light_9 : decode cX13_light 9 = .ok (.invokevirtual 426, 3) := by decide +kernel
theorem dX13_light_12 : decode cX13_light 12 = .ok (.if_icmp .ge 47, 3) := by decide +kernel
theorem dX13_light_15 : decode cX13_light 15 = .ok (.aload_n 0, 1) := by decide +kernel
theorem dX13_light_16 : decode cX13_light 16 = .ok (.getfield 105, 3) := by decide +kernel
theorem dX13_light_19 : decode cX13_light 19 = .ok (.iload_n 1, 1) := by decide +kernel
theorem dX13_light_20 : decode cX13_light 20 = .ok (.aload_n 0, 1) := by decide +kernel
theorem dX13_light_21 : decode cX13_light 21 = .ok (.getfield 13, 3) := by decide +kernel
theorem dX13_light_24 : decode cX13_light 24 = .ok (.bipush 60, 2) := by decide +kernel
theorem dX13_light_26 : decode cX13_light 26 = .ok (.iload_n 1, 1) := by decide +kernel
theorem dX13_light_27 : decode cX13_light 27 = .ok (.iadd, 1) := by decide +kernel
theorem dX13_light_28 : decode cX13_light 28 = .ok (.iaload, 1) := by decide +kernel
theorem dX13_light_29 : decode cX13_light 29 = .ok (.iastore, 1) := by decide +kernel
theorem dX13_light_30 : decode cX13_light 30 = .ok (.aload_n 0, 1) := by decide +kernel
theorem dX13_light_31 : decode cX13_light 31 = .ok (.getfield 108, 3) := by decide +kernel
theorem dX13_light_34 : decode cX13_light 34 = .ok (.iload_n 1, 1) := by decide +kernel
theorem dX13_light_35 : decode cX13_light 35 = .ok (.aload_n 0, 1) := by decide +kernel
theorem dX13_light_36 : decode cX13_light 36 = .ok (.getfield 13, 3) := by decide +kernel
theorem dX13_light_39 : decode cX13_light 39 = .ok (.sipush 130, 3) := by decide +kernel
theorem dX13_light_42 : decode cX13_light 42 = .ok (.iload_n 1, 1) := by decide +kernel
theorem dX13_light_43 : decode cX13_light 43 = .ok (.iadd, 1) := by decide +kernel
theorem dX13_light_44 : decode cX13_light 44 = .ok (.iaload, 1) := by decide +kernel
theorem dX13_light_45 : decode cX13_light 45 = .ok (.iastore, 1) := by decide +kernel
theorem dX13_light_46 : decode cX13_light 46 = .ok (.aload_n 0, 1) := by decide +kernel
theorem dX13_light_47 : decode cX13_light 47 = .ok (.getfield 111, 3) := by decide +kernel
theorem dX13_light_50 : decode cX13_light 50 = .ok (.iload_n 1, 1) := by decide +kernel
theorem dX13_light_51 : decode cX13_light 51 = .ok (.iconst 0, 1) := by decide +kernel
theorem dX13_light_52 : decode cX13_light 52 = .ok (.iastore, 1) := by decide +kernel
theorem dX13_light_53 : decode cX13_light 53 = .ok (.iinc 1 1, 3) := by decide +kernel
theorem dX13_light_56 : decode cX13_light 56 = .ok (.goto (-49), 3) := by decide +kernel
theorem dX13_light_59 : decode cX13_light 59 = .ok (.return_, 1) := by decide +kernel
theorem dX13_aimed_0 : decode cX13_aimed 0 = .ok (.iload_n 1, 1) := by decide +kernel
theorem dX13_aimed_1 : decode cX13_aimed 1 = .ok (.ifCond .ne 5, 3) := by decide +kernel
theorem dX13_aimed_4 : decode cX13_aimed 4 = .ok (.iconst (-1), 1) := by decide +kernel
theorem dX13_aimed_5 : decode cX13_aimed 5 = .ok (.ireturn, 1) := by decide +kernel
theorem dX13_aimed_6 : decode cX13_aimed 6 = .ok (.iload_n 1, 1) := by decide +kernel
theorem dX13_aimed_7 : decode cX13_aimed 7 = .ok (.bipush 100, 2) := by decide +kernel
theorem dX13_aimed_9 : decode cX13_aimed 9 = .ok (.if_icmp .lt 24, 3) := by decide +kernel
theorem dX13_aimed_12 : decode cX13_aimed 12 = .ok (.aload_n 0, 1) := by decide +kernel
theorem dX13_aimed_13 : decode cX13_aimed 13 = .ok (.invokevirtual 298, 3) := by decide +kernel
theorem dX13_aimed_16 : decode cX13_aimed 16 = .ok (.iload_n 1, 1) := by decide +kernel
theorem dX13_aimed_17 : decode cX13_aimed 17 = .ok (.bipush 100, 2) := by decide +kernel
theorem dX13_aimed_19 : decode cX13_aimed 19 = .ok (.isub, 1) := by decide +kernel
theorem dX13_aimed_20 : decode cX13_aimed 20 = .ok (.bipush 10, 2) := by decide +kernel
theorem dX13_aimed_22 : decode cX13_aimed 22 = .ok (.idiv, 1) := by decide +kernel
theorem dX13_aimed_23 : decode cX13_aimed 23 = .ok (.imul, 1) := by decide +kernel
theorem dX13_aimed_24 : decode cX13_aimed 24 = .ok (.iload_n 1, 1) := by decide +kernel
theorem dX13_aimed_25 : decode cX13_aimed 25 = .ok (.bipush 100, 2) := by decide +kernel
theorem dX13_aimed_27 : decode cX13_aimed 27 = .ok (.isub, 1) := by decide +kernel
theorem dX13_aimed_28 : decode cX13_aimed 28 = .ok (.bipush 10, 2) := by decide +kernel
theorem dX13_aimed_30 : decode cX13_aimed 30 = .ok (.irem, 1) := by decide +kernel
theorem dX13_aimed_31 : decode cX13_aimed 31 = .ok (.iadd, 1) := by decide +kernel
theorem dX13_aimed_32 : decode cX13_aimed 32 = .ok (.ireturn, 1) := by decide +kernel
theorem dX13_aimed_33 : decode cX13_aimed 33 = .ok (.iconst (-1), 1) := by decide +kernel
theorem dX13_aimed_34 : decode cX13_aimed 34 = .ok (.istore 5, 2) := by decide +kernel
theorem dX13_aimed_36 : decode cX13_aimed 36 = .ok (.iload_n 1, 1) := by decide +kernel
theorem dX13_aimed_37 : decode cX13_aimed 37 = .ok (.iconst 3, 1) := by decide +kernel
theorem dX13_aimed_38 : decode cX13_aimed 38 = .ok (.if_icmp .ne 63, 3) := by decide +kernel
theorem dX13_aimed_41 : decode cX13_aimed 41 = .ok (.iconst 0, 1) := by decide +kernel
theorem dX13_aimed_42 : decode cX13_aimed 42 = .ok (.istore 6, 2) := by decide +kernel
theorem dX13_aimed_44 : decode cX13_aimed 44 = .ok (.iconst 0, 1) := by decide +kernel
theorem dX13_aimed_45 : decode cX13_aimed 45 = .ok (.istore 7, 2) := by decide +kernel
theorem dX13_aimed_47 : decode cX13_aimed 47 = .ok (.iload 7, 2) := by decide +kernel
theorem dX13_aimed_49 : decode cX13_aimed 49 = .ok (.aload_n 0, 1) := by decide +kernel
theorem dX13_aimed_50 : decode cX13_aimed 50 = .ok (.invokevirtual 426, 3) := by decide +kernel
theorem dX13_aimed_53 : decode cX13_aimed 53 = .ok (.if_icmp .ge 39, 3) := by decide +kernel
theorem dX13_aimed_56 : decode cX13_aimed 56 = .ok (.aload_n 0, 1) := by decide +kernel
theorem dX13_aimed_57 : decode cX13_aimed 57 = .ok (.iload 7, 2) := by decide +kernel
theorem dX13_aimed_59 : decode cX13_aimed 59 = .ok (.aload_n 2, 1) := by decide +kernel
theorem dX13_aimed_60 : decode cX13_aimed 60 = .ok (.aload_n 3, 1) := by decide +kernel
theorem dX13_aimed_61 : decode cX13_aimed 61 = .ok (.iload 4, 2) := by decide +kernel
theorem dX13_aimed_63 : decode cX13_aimed 63 = .ok (.invokevirtual 432, 3) := by decide +kernel
theorem dX13_aimed_66 : decode cX13_aimed 66 = .ok (.istore 8, 2) := by decide +kernel
theorem dX13_aimed_68 : decode cX13_aimed 68 = .ok (.iload 8, 2) := by decide +kernel
theorem dX13_aimed_70 : decode cX13_aimed 70 = .ok (.iload 6, 2) := by decide +kernel
theorem dX13_aimed_72 : decode cX13_aimed 72 = .ok (.if_icmp .gt 6, 3) := by decide +kernel
theorem dX13_aimed_75 : decode cX13_aimed 75 = .ok (.goto 11, 3) := by decide +kernel
theorem dX13_aimed_78 : decode cX13_aimed 78 = .ok (.iload 8, 2) := by decide +kernel
theorem dX13_aimed_80 : decode cX13_aimed 80 = .ok (.istore 6, 2) := by decide +kernel
theorem dX13_aimed_82 : decode cX13_aimed 82 = .ok (.iload 7, 2) := by decide +kernel
theorem dX13_aimed_84 : decode cX13_aimed 84 = .ok (.istore 5, 2) := by decide +kernel
theorem dX13_aimed_86 : decode cX13_aimed 86 = .ok (.iinc 7 1, 3) := by decide +kernel
theorem dX13_aimed_89 : decode cX13_aimed 89 = .ok (.goto (-42), 3) := by decide +kernel
theorem dX13_aimed_92 : decode cX13_aimed 92 = .ok (.iload 5, 2) := by decide +kernel
theorem dX13_aimed_94 : decode cX13_aimed 94 = .ok (.iconst (-1), 1) := by decide +kernel
theorem dX13_aimed_95 : decode cX13_aimed 95 = .ok (.if_icmp .eq 6, 3) := by decide +kernel
theorem dX13_aimed_98 : decode cX13_aimed 98 = .ok (.iload 5, 2) := by decide +kernel
theorem dX13_aimed_100 : decode cX13_aimed 100 = .ok (.ireturn, 1) := by decide +kernel
theorem dX13_aimed_101 : decode cX13_aimed 101 = .ok (.iconst 0, 1) := by decide +kernel
theorem dX13_aimed_102 : decode cX13_aimed 102 = .ok (.istore 6, 2) := by decide +kernel
theorem dX13_aimed_104 : decode cX13_aimed 104 = .ok (.iload 6, 2) := by decide +kernel
theorem dX13_aimed_106 : decode cX13_aimed 106 = .ok (.aload_n 0, 1) := by decide +kernel
theorem dX13_aimed_107 : decode cX13_aimed 107 = .ok (.invokevirtual 426, 3) := by decide +kernel
theorem dX13_aimed_110 : decode cX13_aimed 110 = .ok (.if_icmp .ge 74, 3) := by decide +kernel
theorem dX13_aimed_113 : decode cX13_aimed 113 = .ok (.aload_n 3, 1) := by decide +kernel
theorem dX13_aimed_114 : decode cX13_aimed 114 = .ok (.iload 4, 2) := by decide +kernel
theorem dX13_aimed_116 : decode cX13_aimed 116 = .ok (.iload 6, 2) := by decide +kernel
theorem dX13_aimed_118 : decode cX13_aimed 118 = .ok (.iadd, 1) := by decide +kernel
theorem dX13_aimed_119 : decode cX13_aimed 119 = .ok (.iaload, 1) := by decide +kernel
theorem dX13_aimed_120 : decode cX13_aimed 120 = .ok (.ifCond .ne 6, 3) := by decide +kernel
theorem dX13_aimed_123 : decode cX13_aimed 123 = .ok (.goto 55, 3) := by decide +kernel
theorem dX13_aimed_126 : decode cX13_aimed 126 = .ok (.iload 5, 2) := by decide +kernel
theorem dX13_aimed_128 : decode cX13_aimed 128 = .ok (.iconst (-1), 1) := by decide +kernel
theorem dX13_aimed_129 : decode cX13_aimed 129 = .ok (.if_icmp .eq 45, 3) := by decide +kernel
theorem dX13_aimed_132 : decode cX13_aimed 132 = .ok (.iload_n 1, 1) := by decide +kernel
theorem dX13_aimed_133 : decode cX13_aimed 133 = .ok (.iconst 2, 1) := by decide +kernel
theorem dX13_aimed_134 : decode cX13_aimed 134 = .ok (.if_icmp .ne 23, 3) := by decide +kernel
theorem dX13_aimed_137 : decode cX13_aimed 137 = .ok (.aload_n 2, 1) := by decide +kernel
theorem dX13_aimed_138 : decode cX13_aimed 138 = .ok (.iload 4, 2) := by decide +kernel
theorem dX13_aimed_140 : decode cX13_aimed 140 = .ok (.iload 6, 2) := by decide +kernel
theorem dX13_aimed_142 : decode cX13_aimed 142 = .ok (.iadd, 1) := by decide +kernel
theorem dX13_aimed_143 : decode cX13_aimed 143 = .ok (.iaload, 1) := by decide +kernel
theorem dX13_aimed_144 : decode cX13_aimed 144 = .ok (.aload_n 2, 1) := by decide +kernel
theorem dX13_aimed_145 : decode cX13_aimed 145 = .ok (.iload 4, 2) := by decide +kernel
theorem dX13_aimed_147 : decode cX13_aimed 147 = .ok (.iload 5, 2) := by decide +kernel
theorem dX13_aimed_149 : decode cX13_aimed 149 = .ok (.iadd, 1) := by decide +kernel
theorem dX13_aimed_150 : decode cX13_aimed 150 = .ok (.iaload, 1) := by decide +kernel
theorem dX13_aimed_151 : decode cX13_aimed 151 = .ok (.if_icmp .ge 27, 3) := by decide +kernel
theorem dX13_aimed_154 : decode cX13_aimed 154 = .ok (.goto 20, 3) := by decide +kernel
theorem dX13_aimed_157 : decode cX13_aimed 157 = .ok (.aload_n 2, 1) := by decide +kernel
theorem dX13_aimed_158 : decode cX13_aimed 158 = .ok (.iload 4, 2) := by decide +kernel
theorem dX13_aimed_160 : decode cX13_aimed 160 = .ok (.iload 6, 2) := by decide +kernel
theorem dX13_aimed_162 : decode cX13_aimed 162 = .ok (.iadd, 1) := by decide +kernel
theorem dX13_aimed_163 : decode cX13_aimed 163 = .ok (.iaload, 1) := by decide +kernel
theorem dX13_aimed_164 : decode cX13_aimed 164 = .ok (.aload_n 2, 1) := by decide +kernel
theorem dX13_aimed_165 : decode cX13_aimed 165 = .ok (.iload 4, 2) := by decide +kernel
theorem dX13_aimed_167 : decode cX13_aimed 167 = .ok (.iload 5, 2) := by decide +kernel
theorem dX13_aimed_169 : decode cX13_aimed 169 = .ok (.iadd, 1) := by decide +kernel
theorem dX13_aimed_170 : decode cX13_aimed 170 = .ok (.iaload, 1) := by decide +kernel
theorem dX13_aimed_171 : decode cX13_aimed 171 = .ok (.if_icmp .le 7, 3) := by decide +kernel
theorem dX13_aimed_174 : decode cX13_aimed 174 = .ok (.iload 6, 2) := by decide +kernel
theorem dX13_aimed_176 : decode cX13_aimed 176 = .ok (.istore 5, 2) := by decide +kernel
theorem dX13_aimed_178 : decode cX13_aimed 178 = .ok (.iinc 6 1, 3) := by decide +kernel
theorem dX13_aimed_181 : decode cX13_aimed 181 = .ok (.goto (-77), 3) := by decide +kernel
theorem dX13_aimed_184 : decode cX13_aimed 184 = .ok (.iload 5, 2) := by decide +kernel
theorem dX13_aimed_186 : decode cX13_aimed 186 = .ok (.ireturn, 1) := by decide +kernel
/-- a cell's heat as the reference keeps it -/
def hv (fu bu he : Nat → Int32) (k : Nat) : Int32 := if bu k = nI 1 then nI 0 else if fu k = 0 then nI 0 else he k
def hK (C R : Nat) (wi : Int32) (fu bu : Nat → Int32) (k : Nat) : Int32 := hv fu bu (pH0 C R wi fu bu) k
theorem hO_k {C R : Nat} {wi : Int32} {fu bu : Nat → Int32} {k : Nat} (hC : 0 < C) (hk : k < C * R) : hO C R wi fu bu (k / C) (k % C) = hK C R wi fu bu k := by
  unfold hO hK hv
  rw [hSm_4 (Nat.mod_lt k hC) (Nat.div_lt_of_lt_mul hk), Nat.div_add_mod']
/-- a fire on n cells: what burns has something left -/
def fBk (n : Nat) (fu bu : Nat → Int32) : Prop := ∀ k, k < n → (bu k = 0 ∨ bu k = 1) ∧ ∃ x, x ≤ 9 ∧ fu k = nI x ∧ (bu k = 1 → 1 ≤ x)
theorem pCnt_b {bu : Nat → Int32} {k : Nat} (h : bu k = 0 ∨ bu k = 1) : pCnt bu k + bu k = pCnt bu (k + 1) := by
  rcases h with h | h
  · rw [pCnt_z h, h, Int32.add_zero]
  · rw [pCnt_s (by rw [h]; decide), h]
theorem pBst_on {bt : Int32 → Int32 → Bool} {fu bu : Nat → Int32} : ∀ {n j : Nat}, pBst bt fu bu n = some j → ¬ bu j = 0
  | 0, j, h => by cases h
  | k + 1, j, h => by
    by_cases hb : bu k = 0
    · rw [pBst_0 hb] at h; exact pBst_on h
    · cases h2 : pBst bt fu bu k with
      | none => rw [pBst_n hb h2] at h; cases h; exact hb
      | some i =>
        by_cases h3 : bt (fu k) (fu i) = true
        · rw [pBst_y hb h2 h3] at h; cases h; exact hb
        · rw [pBst_s hb h2 h3] at h; cases h; exact pBst_on h2
def hTop (fu bu he : Nat → Int32) (k : Nat) : Int32 := match pHot fu bu he k with
  | none => 0
  | some j => he j
section
variable {fu bu he : Nat → Int32} {k n : Nat}
theorem pFl_p {j : Nat} (h : ¬ pFl fu bu he j = 0) : bu j = 0 ∧ ¬ fu j ≤ 0 ∧ ¬ he j ≤ 0 := by
  unfold pFl at h
  by_cases h1 : bu j = 0
  · by_cases h2 : fu j ≤ 0
    · rw [if_neg (fun z => z h1), if_pos h2] at h; exact absurd rfl h
    · by_cases h3 : he j ≤ 0
      · rw [if_neg (fun z => z h1), if_neg h2, if_pos h3] at h; exact absurd rfl h
      · exact ⟨h1, h2, h3⟩
  · rw [if_pos h1] at h; exact absurd rfl h
theorem pFl_y {j : Nat} (h1 : bu j = 0) (h2 : ¬ fu j ≤ 0) (h3 : ¬ he j ≤ 0) : ¬ pFl fu bu he j = 0 := by
  unfold pFl
  rw [if_neg (fun z => z h1), if_neg h2, if_neg h3]; decide
theorem hTop_0 : (0 : Int32) ≤ hTop fu bu he k := by
  unfold hTop
  cases h : pHot fu bu he k with
  | none => exact Int32.le_refl _
  | some j => exact Int32.le_of_lt (Int32.not_le.mp (pFl_p (pBst_on h)).2.2)
theorem hot_y (H : fBk n fu bu) (hk : k < n) (h : hTop fu bu he k < hv fu bu he k) : pHot fu bu he (k + 1) = some k ∧ hTop fu bu he (k + 1) = hv fu bu he k := by
  have hp : (0 : Int32) < hv fu bu he k := Int32.lt_of_le_of_lt hTop_0 h
  obtain ⟨hb, x, hx, hf, -⟩ := H k hk
  have hb0 : bu k = 0 := hb.resolve_right (fun z => by rw [hv, if_pos (show bu k = nI 1 from z)] at hp; exact absurd hp (by decide))
  have hf0 : ¬ fu k = 0 := fun z => by rw [hv, if_neg (by rw [hb0]; decide), if_pos z] at hp; exact absurd hp (by decide)
  have hvk : hv fu bu he k = he k := by rw [hv, if_neg (by rw [hb0]; decide), if_neg hf0]
  have hfp : ¬ fu k ≤ 0 := by
    rw [hf] at hf0 ⊢
    intro hz
    rw [show (0 : Int32) = nI 0 from rfl, nI_le' (by omega) (by omega)] at hz
    exact hf0 (by rw [show x = 0 by omega]; rfl)
  rw [hvk] at h hp ⊢
  have hfl := pFl_y (he := he) hb0 hfp (Int32.not_le.mpr hp)
  have e : pHot fu bu he (k + 1) = some k := by
    cases q : pHot fu bu he k with
    | none => exact pBst_n hfl q
    | some j =>
      unfold hTop at h
      rw [q] at h
      exact pBst_y hfl q (decide_eq_true h)
  refine ⟨e, ?_⟩
  unfold hTop
  rw [e]
theorem hot_n (h : ¬ hTop fu bu he k < hv fu bu he k) : pHot fu bu he (k + 1) = pHot fu bu he k := by
  by_cases hfl : pFl fu bu he k = 0
  · exact pBst_0 hfl
  · obtain ⟨h1, h2, h3⟩ := pFl_p hfl
    have hvk : hv fu bu he k = he k := by rw [hv, if_neg (by rw [h1]; decide), if_neg (fun z => h2 (by rw [z]; exact Int32.le_refl _))]
    rw [hvk] at h
    cases q : pHot fu bu he k with
    | none =>
      unfold hTop at h
      rw [q] at h
      exact absurd (Int32.not_le.mp h3) h
    | some j =>
      unfold hTop at h
      rw [q] at h
      exact (pBst_s hfl q (fun z => h (of_decide_eq_true z)))
theorem hot_n2 (h : ¬ hTop fu bu he k < hv fu bu he k) : hTop fu bu he k = hTop fu bu he (k + 1) := by
  unfold hTop; rw [hot_n h]
end
theorem s_mHeatK (l : Launch) (dd : Nat) (mo : Nat) (e : Nat → Nat) (g : Nat → Int32) (w : Int64) (nw : Nat → Int32) (D : zYd) (p q N B : Nat) (ff fb : Nat → Int32) (k : Nat) (hd : 2 ≤ dd) (hR : yR D nw) (hC : D.1 14 ≤ 8) (hRo : D.1 15 ≤ 8) (hN : B + 64 ≤ N) (hN2 : N < 2147483648) (hk : k < D.1 14 * D.1 15) : zSp l mX13_heatOf dd 0 0 [.ref mo, .int (nI k), .ref p, .ref q, .int (nI B)] [(mo, .inr (11, fMo e g w)), ((e 14), .inl (0, 800, .inl nw)), (p, .inl (0, N, .inl ff)), (q, .inl (0, N, .inl fb))] (fun r K' => r = some (.int (hK (D.1 14) (D.1 15) D.2.1 (fun j => ff (B + j)) (fun j => fb (B + j)) k)) ∧ K' = [(mo, .inr (11, fMo e g w)), ((e 14), .inl (0, 800, .inl nw)), (p, .inl (0, N, .inl ff)), (q, .inl (0, N, .inl fb))]) := by
  have hC0 : 0 < D.1 14 := by
    rcases Nat.eq_zero_or_pos (D.1 14) with h | h
    · rw [h, Nat.zero_mul] at hk; omega
    · exact h
  have h := s_mHeatOf l dd mo e g w nw D p q N B ff fb (k / D.1 14) (k % D.1 14) hd hR hC hRo (Nat.mod_lt _ hC0) (Nat.div_lt_of_lt_mul hk) hN hN2
  rw [Nat.div_add_mod', hO_k hC0 hk] at h
  exact h
set_option maxRecDepth 100000 in
theorem lp_mburning {l : Launch} {dd : Nat} {Po : zPo} {K0 : zK} {h0 : List va_E} {Xo : zK → Prop} {Gc : zG → Prop} (mo : Nat) (e : Nat → Nat) (g : Nat → Int32) (w : Int64) (nw : Nat → Int32) (D : zYd) (bu : Nat → Int32) (hd : 1 ≤ dd) (hR : yR D nw) (hC : D.1 14 ≤ 8) (hRo : D.1 15 ≤ 8) (hb : ∀ j, j < (D.1 14 * D.1 15) → bu j = 0 ∨ bu j = 1)
    (hk : zS (l, mX13_burning, dd, Po, K0, h0, Xo, Gc) 0 0 27 [(1, .int (pCnt bu (D.1 14 * D.1 15)))] [] [(mo, .inr (11, fMo e g w)), ((e 14), .inl (0, 800, .inl nw)), ((e 65), .inl (0, 64, .inl bu))]) :
    ∀ (m i : Nat) , i + m = (D.1 14 * D.1 15) → zS (l, mX13_burning, dd, Po, K0, h0, Xo, Gc) 0 0 4 [(0, .ref mo), (1, .int (pCnt bu i)), (2, .int (nI i))] [] [(mo, .inr (11, fMo e g w)), ((e 14), .inl (0, 800, .inl nw)), ((e 65), .inl (0, 64, .inl bu))] := by
  intro m
  induction m with
  | zero =>
    intro i hi
    have h64 : D.1 14 * D.1 15 ≤ 64 := Nat.mul_le_mul hC hRo
    refine zs_iload_n dX13_burning_4 rfl ?_
    refine zs_aload_n dX13_burning_5 rfl rfl ?_
    refine zs_callV (M := mX13_cells) (As := []) (st := [.int (nI i)]) (Kc := [(mo, .inr (11, fMo e g w)), ((e 14), .inl (0, 800, .inl nw))]) (Kr := [((e 65), .inl (0, 64, .inl bu))]) [0, 1] [2] 0 dX13_burning_6 zl_RX13_426 kX13_cells rfl rfl rfl rfl rfl (by decide) rfl rfl (show dd - 1 + 1 ≤ dd by omega) (Nat.zero_le _) (Nat.zero_le _) (Nat.le_of_ble_eq_true rfl) (s_mCells l (dd - 1) mo e g w nw D hR) (fun r K1 hr => ?_)
    obtain ⟨rfl, rfl⟩ := hr
    refine zs_K (K' := [(mo, .inr (11, fMo e g w)), ((e 14), .inl (0, 800, .inl nw)), ((e 65), .inl (0, 64, .inl bu))]) [1, 2, 0] rfl (by decide) ?_
    refine zs_icmp_ge (tgt := 27) dX13_burning_9 (by decide) (fun c_1 => ?_) (fun c_1 => (c_1 (by rw [show i = (D.1 14 * D.1 15) by omega]; exact Int32.le_refl _) : False).elim)
    rw [show i = (D.1 14 * D.1 15) by omega]
    refine zs_lv [1] rfl ?_
    exact hk
  | succ m ih =>
    intro i hi
    have h64 : D.1 14 * D.1 15 ≤ 64 := Nat.mul_le_mul hC hRo
    refine zs_iload_n dX13_burning_4 rfl ?_
    refine zs_aload_n dX13_burning_5 rfl rfl ?_
    refine zs_callV (M := mX13_cells) (As := []) (st := [.int (nI i)]) (Kc := [(mo, .inr (11, fMo e g w)), ((e 14), .inl (0, 800, .inl nw))]) (Kr := [((e 65), .inl (0, 64, .inl bu))]) [0, 1] [2] 0 dX13_burning_6 zl_RX13_426 kX13_cells rfl rfl rfl rfl rfl (by decide) rfl rfl (show dd - 1 + 1 ≤ dd by omega) (Nat.zero_le _) (Nat.zero_le _) (Nat.le_of_ble_eq_true rfl) (s_mCells l (dd - 1) mo e g w nw D hR) (fun r K1 hr => ?_)
    obtain ⟨rfl, rfl⟩ := hr
    refine zs_K (K' := [(mo, .inr (11, fMo e g w)), ((e 14), .inl (0, 800, .inl nw)), ((e 65), .inl (0, 64, .inl bu))]) [1, 2, 0] rfl (by decide) ?_
    refine zs_icmp_ge (tgt := 27) dX13_burning_9 (by decide) (fun c_1 => (nI_ge (show i < (D.1 14 * D.1 15) by omega) (by omega) c_1 : False).elim) (fun c_1 => ?_)
    refine zs_iload_n dX13_burning_12 rfl ?_
    refine zs_aload_n dX13_burning_13 rfl rfl ?_
    refine zs_get 0 dX13_burning_14 zf_RX13_108 rfl (v := .ref (e 65)) rfl ?_
    refine zs_iload_n dX13_burning_17 rfl ?_
    refine zs_iald 2 dX13_burning_18 rfl (vp_in_nI (by omega) (by omega)) ?_
    refine zs_as (y := bu i) (by rw [nI_c (n := i) (by omega)]) ?_
    refine zs_iadd dX13_burning_19 ?_
    refine zs_as (y := pCnt bu (i + 1)) (pCnt_b (hb i (by omega))) ?_
    refine zs_istore_n (lv' := [(1, .int (pCnt bu (i + 1))), (0, .ref mo), (2, .int (nI i))]) dX13_burning_20 (Nat.le_of_ble_eq_true rfl) rfl ?_
    refine zs_iinc (v := (nI (i + 1))) (lv' := [(2, .int (nI (i + 1))), (1, .int (pCnt bu (i + 1))), (0, .ref mo)]) dX13_burning_21 rfl (nI_add _ 1) (Nat.le_of_ble_eq_true rfl) rfl ?_
    refine zs_goto (tgt := 4) dX13_burning_24 (by decide) ?_
    refine zs_lv [2, 1, 0] rfl ?_
    exact ih (i + 1) (by omega)
set_option maxRecDepth 100000 in
theorem s_mBurning (l : Launch) (dd : Nat) (mo : Nat) (e : Nat → Nat) (g : Nat → Int32) (w : Int64) (nw : Nat → Int32) (D : zYd) (bu : Nat → Int32) (hd : 1 ≤ dd) (hR : yR D nw) (hC : D.1 14 ≤ 8) (hRo : D.1 15 ≤ 8) (hb : ∀ j, j < (D.1 14 * D.1 15) → bu j = 0 ∨ bu j = 1) : zSp l mX13_burning dd 0 0 [.ref mo] [(mo, .inr (11, fMo e g w)), ((e 14), .inl (0, 800, .inl nw)), ((e 65), .inl (0, 64, .inl bu))] (fun r K' => r = some (.int (pCnt bu (D.1 14 * D.1 15))) ∧ K' = [(mo, .inr (11, fMo e g w)), ((e 14), .inl (0, 800, .inl nw)), ((e 65), .inl (0, 64, .inl bu))]) := by
  refine zSp.of (by decide) (Nat.le_of_ble_eq_true rfl) (fun h0 => ?_)
  show zS _ 0 0 0 [(0, .ref mo)] [] [(mo, .inr (11, fMo e g w)), ((e 14), .inl (0, 800, .inl nw)), ((e 65), .inl (0, 64, .inl bu))]
  refine zs_iconst (v := nI 0) dX13_burning_0 (by decide) ?_
  refine zs_istore_n (lv' := [(1, .int (nI 0)), (0, .ref mo)]) dX13_burning_1 (Nat.le_of_ble_eq_true rfl) rfl ?_
  refine zs_iconst (v := nI 0) dX13_burning_2 (by decide) ?_
  refine zs_istore_n (lv' := [(2, .int (nI 0)), (1, .int (nI 0)), (0, .ref mo)]) dX13_burning_3 (Nat.le_of_ble_eq_true rfl) rfl ?_
  refine zs_lv [2, 1, 0] rfl ?_
  refine lp_mburning mo e g w nw D bu hd hR hC hRo hb ?_ (D.1 14 * D.1 15) 0 (Nat.zero_add _)
  refine zs_iload_n dX13_burning_27 rfl ?_
  exact zs_iret dX13_burning_28 rfl ⟨rfl, rfl⟩
set_option maxRecDepth 100000 in
theorem lp_mlight {l : Launch} {dd : Nat} {Po : zPo} {K0 : zK} {h0 : List va_E} {Xo : zK → Prop} {Gc : zG → Prop} (mo : Nat) (e : Nat → Nat) (g : Nat → Int32) (w : Int64) (nw : Nat → Int32) (D : zYd) (fu bu we : Nat → Int32) (hd : 1 ≤ dd) (hR : yR D nw) (hC : D.1 14 ≤ 8) (hRo : D.1 15 ≤ 8)
    (hk : zS (l, mX13_light, dd, Po, K0, h0, Xo, Gc) 0 0 59 [] [] [(mo, .inr (11, fMo e (upd g 70 (nI 0)) w)), ((e 14), .inl (0, 800, .inl nw)), ((e 64), .inl (0, 64, .inl (pCl (nF D.2.2.2.2.2.2.1) fu (D.1 14 * D.1 15)))), ((e 65), .inl (0, 64, .inl (pCl (nF D.2.2.2.2.2.2.2) bu (D.1 14 * D.1 15)))), ((e 66), .inl (0, 64, .inl (pCl (fun _ => 0) we (D.1 14 * D.1 15))))]) :
    ∀ (m i : Nat) , i + m = (D.1 14 * D.1 15) → zS (l, mX13_light, dd, Po, K0, h0, Xo, Gc) 0 0 7 [(0, .ref mo), (1, .int (nI i))] [] [(mo, .inr (11, fMo e (upd g 70 (nI 0)) w)), ((e 14), .inl (0, 800, .inl nw)), ((e 64), .inl (0, 64, .inl (pCl (nF D.2.2.2.2.2.2.1) fu i))), ((e 65), .inl (0, 64, .inl (pCl (nF D.2.2.2.2.2.2.2) bu i))), ((e 66), .inl (0, 64, .inl (pCl (fun _ => 0) we i)))] := by
  intro m
  induction m with
  | zero =>
    intro i hi
    have h64 : D.1 14 * D.1 15 ≤ 64 := Nat.mul_le_mul hC hRo
    refine zs_iload_n dX13_light_7 rfl ?_
    refine zs_aload_n dX13_light_8 rfl rfl ?_
    refine zs_callV (M := mX13_cells) (As := []) (st := [.int (nI i)]) (Kc := [(mo, .inr (11, fMo e (upd g 70 (nI 0)) w)), ((e 14), .inl (0, 800, .inl nw))]) (Kr := [((e 64), .inl (0, 64, .inl (pCl (nF D.2.2.2.2.2.2.1) fu i))), ((e 65), .inl (0, 64, .inl (pCl (nF D.2.2.2.2.2.2.2) bu i))), ((e 66), .inl (0, 64, .inl (pCl (fun _ => 0) we i)))]) [0, 1] [2, 3, 4] 0 dX13_light_9 zl_RX13_426 kX13_cells rfl rfl rfl rfl rfl (by decide) rfl rfl (show dd - 1 + 1 ≤ dd by omega) (Nat.zero_le _) (Nat.zero_le _) (Nat.le_of_ble_eq_true rfl) (s_mCells l (dd - 1) mo e (upd g 70 (nI 0)) w nw D hR) (fun r K1 hr => ?_)
    obtain ⟨rfl, rfl⟩ := hr
    refine zs_K (K' := [(mo, .inr (11, fMo e (upd g 70 (nI 0)) w)), ((e 14), .inl (0, 800, .inl nw)), ((e 64), .inl (0, 64, .inl (pCl (nF D.2.2.2.2.2.2.1) fu i))), ((e 65), .inl (0, 64, .inl (pCl (nF D.2.2.2.2.2.2.2) bu i))), ((e 66), .inl (0, 64, .inl (pCl (fun _ => 0) we i)))]) [3, 4, 0, 1, 2] rfl (by decide) ?_
    refine zs_icmp_ge (tgt := 59) dX13_light_12 (by decide) (fun c_1 => ?_) (fun c_1 => (c_1 (by rw [show i = (D.1 14 * D.1 15) by omega]; exact Int32.le_refl _) : False).elim)
    rw [show i = (D.1 14 * D.1 15) by omega]
    refine zs_lv [] rfl ?_
    exact hk
  | succ m ih =>
    intro i hi
    have h64 : D.1 14 * D.1 15 ≤ 64 := Nat.mul_le_mul hC hRo
    refine zs_iload_n dX13_light_7 rfl ?_
    refine zs_aload_n dX13_light_8 rfl rfl ?_
    refine zs_callV (M := mX13_cells) (As := []) (st := [.int (nI i)]) (Kc := [(mo, .inr (11, fMo e (upd g 70 (nI 0)) w)), ((e 14), .inl (0, 800, .inl nw))]) (Kr := [((e 64), .inl (0, 64, .inl (pCl (nF D.2.2.2.2.2.2.1) fu i))), ((e 65), .inl (0, 64, .inl (pCl (nF D.2.2.2.2.2.2.2) bu i))), ((e 66), .inl (0, 64, .inl (pCl (fun _ => 0) we i)))]) [0, 1] [2, 3, 4] 0 dX13_light_9 zl_RX13_426 kX13_cells rfl rfl rfl rfl rfl (by decide) rfl rfl (show dd - 1 + 1 ≤ dd by omega) (Nat.zero_le _) (Nat.zero_le _) (Nat.le_of_ble_eq_true rfl) (s_mCells l (dd - 1) mo e (upd g 70 (nI 0)) w nw D hR) (fun r K1 hr => ?_)
    obtain ⟨rfl, rfl⟩ := hr
    refine zs_K (K' := [(mo, .inr (11, fMo e (upd g 70 (nI 0)) w)), ((e 14), .inl (0, 800, .inl nw)), ((e 64), .inl (0, 64, .inl (pCl (nF D.2.2.2.2.2.2.1) fu i))), ((e 65), .inl (0, 64, .inl (pCl (nF D.2.2.2.2.2.2.2) bu i))), ((e 66), .inl (0, 64, .inl (pCl (fun _ => 0) we i)))]) [3, 4, 0, 1, 2] rfl (by decide) ?_
    refine zs_icmp_ge (tgt := 59) dX13_light_12 (by decide) (fun c_1 => (nI_ge (show i < (D.1 14 * D.1 15) by omega) (by omega) c_1 : False).elim) (fun c_1 => ?_)
    refine zs_aload_n dX13_light_15 rfl rfl ?_
    refine zs_get 0 dX13_light_16 zf_RX13_105 rfl (v := .ref (e 64)) rfl ?_
    refine zs_iload_n dX13_light_19 rfl ?_
    refine zs_aload_n dX13_light_20 rfl rfl ?_
    refine zs_get 0 dX13_light_21 zf_RX13_13 rfl (v := .ref (e 14)) rfl ?_
    refine zs_bipush (v := nI 60) dX13_light_24 (by decide) ?_
    refine zs_iload_n dX13_light_26 rfl ?_
    refine zs_iadd dX13_light_27 ?_
    refine zs_as (y := nI (60 + i)) (nI_add _ _) ?_
    refine zs_iald 1 dX13_light_28 rfl (vp_in_nI (by omega) (by omega)) ?_
    refine zs_as (y := (nF D.2.2.2.2.2.2.1) i) (by rw [nI_c (n := 60 + i) (by omega)]; exact (hR.2.2.2.2.2.2.2.2.2.2.2.2.2 i (by omega)).1) ?_
    refine zs_iast 2 dX13_light_29 rfl (vp_in_nI (by omega) (by omega)) ?_
    rw [nI_c (n := i) (by omega)]
    rw [show (upd (pCl (nF D.2.2.2.2.2.2.1) fu i) i ((nF D.2.2.2.2.2.2.1) i)) = pCl (nF D.2.2.2.2.2.2.1) fu (i + 1) from pCl_s _ _ _]
    show zS _ _ _ _ _ _ [(mo, .inr (11, fMo e (upd g 70 (nI 0)) w)), ((e 14), .inl (0, 800, .inl nw)), ((e 64), .inl (0, 64, .inl (pCl (nF D.2.2.2.2.2.2.1) fu (i + 1)))), ((e 65), .inl (0, 64, .inl (pCl (nF D.2.2.2.2.2.2.2) bu i))), ((e 66), .inl (0, 64, .inl (pCl (fun _ => 0) we i)))]
    refine zs_aload_n dX13_light_30 rfl rfl ?_
    refine zs_get 0 dX13_light_31 zf_RX13_108 rfl (v := .ref (e 65)) rfl ?_
    refine zs_iload_n dX13_light_34 rfl ?_
    refine zs_aload_n dX13_light_35 rfl rfl ?_
    refine zs_get 0 dX13_light_36 zf_RX13_13 rfl (v := .ref (e 14)) rfl ?_
    refine zs_sipush (v := nI 130) dX13_light_39 (by decide) ?_
    refine zs_iload_n dX13_light_42 rfl ?_
    refine zs_iadd dX13_light_43 ?_
    refine zs_as (y := nI (130 + i)) (nI_add _ _) ?_
    refine zs_iald 1 dX13_light_44 rfl (vp_in_nI (by omega) (by omega)) ?_
    refine zs_as (y := (nF D.2.2.2.2.2.2.2) i) (by rw [nI_c (n := 130 + i) (by omega)]; exact (hR.2.2.2.2.2.2.2.2.2.2.2.2.2 i (by omega)).2) ?_
    refine zs_iast 3 dX13_light_45 rfl (vp_in_nI (by omega) (by omega)) ?_
    rw [nI_c (n := i) (by omega)]
    rw [show (upd (pCl (nF D.2.2.2.2.2.2.2) bu i) i ((nF D.2.2.2.2.2.2.2) i)) = pCl (nF D.2.2.2.2.2.2.2) bu (i + 1) from pCl_s _ _ _]
    show zS _ _ _ _ _ _ [(mo, .inr (11, fMo e (upd g 70 (nI 0)) w)), ((e 14), .inl (0, 800, .inl nw)), ((e 64), .inl (0, 64, .inl (pCl (nF D.2.2.2.2.2.2.1) fu (i + 1)))), ((e 65), .inl (0, 64, .inl (pCl (nF D.2.2.2.2.2.2.2) bu (i + 1)))), ((e 66), .inl (0, 64, .inl (pCl (fun _ => 0) we i)))]
    refine zs_aload_n dX13_light_46 rfl rfl ?_
    refine zs_get 0 dX13_light_47 zf_RX13_111 rfl (v := .ref (e 66)) rfl ?_
    refine zs_iload_n dX13_light_50 rfl ?_
    refine zs_iconst (v := nI 0) dX13_light_51 (by decide) ?_
    refine zs_iast 4 dX13_light_52 rfl (vp_in_nI (by omega) (by omega)) ?_
    rw [nI_c (n := i) (by omega)]
    rw [show (upd (pCl (fun _ => 0) we i) i (nI 0)) = pCl (fun _ => 0) we (i + 1) from pCl_s _ _ _]
    show zS _ _ _ _ _ _ [(mo, .inr (11, fMo e (upd g 70 (nI 0)) w)), ((e 14), .inl (0, 800, .inl nw)), ((e 64), .inl (0, 64, .inl (pCl (nF D.2.2.2.2.2.2.1) fu (i + 1)))), ((e 65), .inl (0, 64, .inl (pCl (nF D.2.2.2.2.2.2.2) bu (i + 1)))), ((e 66), .inl (0, 64, .inl (pCl (fun _ => 0) we (i + 1))))]
    refine zs_iinc (v := (nI (i + 1))) (lv' := [(1, .int (nI (i + 1))), (0, .ref mo)]) dX13_light_53 rfl (nI_add _ 1) (Nat.le_of_ble_eq_true rfl) rfl ?_
    refine zs_goto (tgt := 7) dX13_light_56 (by decide) ?_
    refine zs_lv [1, 0] rfl ?_
    exact ih (i + 1) (by omega)
set_option maxRecDepth 100000 in
theorem s_mLight (l : Launch) (dd : Nat) (mo : Nat) (e : Nat → Nat) (g : Nat → Int32) (w : Int64) (nw : Nat → Int32) (D : zYd) (fu bu we : Nat → Int32) (hd : 1 ≤ dd) (hR : yR D nw) (hC : D.1 14 ≤ 8) (hRo : D.1 15 ≤ 8) : zSp l mX13_light dd 0 0 [.ref mo] [(mo, .inr (11, fMo e g w)), ((e 14), .inl (0, 800, .inl nw)), ((e 64), .inl (0, 64, .inl fu)), ((e 65), .inl (0, 64, .inl bu)), ((e 66), .inl (0, 64, .inl we))] (fun r K' => r = none ∧ K' = [(mo, .inr (11, fMo e (upd g 70 (nI 0)) w)), ((e 14), .inl (0, 800, .inl nw)), ((e 64), .inl (0, 64, .inl (pCl (nF D.2.2.2.2.2.2.1) fu (D.1 14 * D.1 15)))), ((e 65), .inl (0, 64, .inl (pCl (nF D.2.2.2.2.2.2.2) bu (D.1 14 * D.1 15)))), ((e 66), .inl (0, 64, .inl (pCl (fun _ => 0) we (D.1 14 * D.1 15))))]) := by
  refine zSp.of (by decide) (Nat.le_of_ble_eq_true rfl) (fun h0 => ?_)
  show zS _ 0 0 0 [(0, .ref mo)] [] [(mo, .inr (11, fMo e g w)), ((e 14), .inl (0, 800, .inl nw)), ((e 64), .inl (0, 64, .inl fu)), ((e 65), .inl (0, 64, .inl bu)), ((e 66), .inl (0, 64, .inl we))]
  refine zs_aload_n dX13_light_0 rfl rfl ?_
  refine zs_iconst (v := nI 0) dX13_light_1 (by decide) ?_
  refine zs_put 0 dX13_light_2 zf_RX13_423 rfl (Nat.le_of_ble_eq_true rfl) (zPv_i _) ?_
  show zS _ _ _ _ _ _ [(mo, .inr (11, fMo e (upd g 70 (nI 0)) w)), ((e 14), .inl (0, 800, .inl nw)), ((e 64), .inl (0, 64, .inl fu)), ((e 65), .inl (0, 64, .inl bu)), ((e 66), .inl (0, 64, .inl we))]
  refine zs_iconst (v := nI 0) dX13_light_5 (by decide) ?_
  refine zs_istore_n (lv' := [(1, .int (nI 0)), (0, .ref mo)]) dX13_light_6 (Nat.le_of_ble_eq_true rfl) rfl ?_
  refine zs_eq (K' := [(mo, .inr (11, fMo e (upd g 70 (nI 0)) w)), ((e 14), .inl (0, 800, .inl nw)), ((e 64), .inl (0, 64, .inl (pCl (nF D.2.2.2.2.2.2.1) fu 0))), ((e 65), .inl (0, 64, .inl (pCl (nF D.2.2.2.2.2.2.2) bu 0))), ((e 66), .inl (0, 64, .inl (pCl (fun _ => 0) we 0)))]) (by simp only [pCl_0]) ?_
  refine zs_lv [1, 0] rfl ?_
  refine lp_mlight mo e g w nw D fu bu we hd hR hC hRo ?_ (D.1 14 * D.1 15) 0 (Nat.zero_add _)
  exact zs_vret dX13_light_59 rfl ⟨rfl, rfl⟩
set_option maxRecDepth 100000 in
theorem lp_mhot {l : Launch} {dd : Nat} {Po : zPo} {K0 : zK} {h0 : List va_E} {Xo : zK → Prop} {Gc : zG → Prop} (mo : Nat) (e : Nat → Nat) (g : Nat → Int32) (w : Int64) (nw : Nat → Int32) (D : zYd) (p q N B : Nat) (ff fb : Nat → Int32) (hd : 3 ≤ dd) (hR : yR D nw) (hC : D.1 14 ≤ 8) (hRo : D.1 15 ≤ 8) (hN : B + 64 ≤ N) (hN2 : N < 2147483648) (hbb : fBk (D.1 14 * D.1 15) (fun j => ff (B + j)) (fun j => fb (B + j)))
    (hk : zS (l, mX13_aimed, dd, Po, K0, h0, Xo, Gc) 0 0 92 [(0, .ref mo), (1, .int (nI 3)), (2, .ref p), (3, .ref q), (4, .int (nI B)), (5, .int (eO (pHot (fun j => ff (B + j)) (fun j => fb (B + j)) (pH0 (D.1 14) (D.1 15) D.2.1 (fun j => ff (B + j)) (fun j => fb (B + j))) (D.1 14 * D.1 15))))] [] [(mo, .inr (11, fMo e g w)), ((e 14), .inl (0, 800, .inl nw)), (p, .inl (0, N, .inl ff)), (q, .inl (0, N, .inl fb))]) :
    ∀ (m i : Nat) , i + m = (D.1 14 * D.1 15) → zS (l, mX13_aimed, dd, Po, K0, h0, Xo, Gc) 0 0 47 [(0, .ref mo), (1, .int (nI 3)), (2, .ref p), (3, .ref q), (4, .int (nI B)), (5, .int (eO (pHot (fun j => ff (B + j)) (fun j => fb (B + j)) (pH0 (D.1 14) (D.1 15) D.2.1 (fun j => ff (B + j)) (fun j => fb (B + j))) i))), (6, .int (hTop (fun j => ff (B + j)) (fun j => fb (B + j)) (pH0 (D.1 14) (D.1 15) D.2.1 (fun j => ff (B + j)) (fun j => fb (B + j))) i)), (7, .int (nI i))] [] [(mo, .inr (11, fMo e g w)), ((e 14), .inl (0, 800, .inl nw)), (p, .inl (0, N, .inl ff)), (q, .inl (0, N, .inl fb))] := by
  intro m
  induction m with
  | zero =>
    intro i hi
    have h64 : D.1 14 * D.1 15 ≤ 64 := Nat.mul_le_mul hC hRo
    refine zs_iload dX13_aimed_47 rfl ?_
    refine zs_aload_n dX13_aimed_49 rfl rfl ?_
    refine zs_callV (M := mX13_cells) (As := []) (st := [.int (nI i)]) (Kc := [(mo, .inr (11, fMo e g w)), ((e 14), .inl (0, 800, .inl nw))]) (Kr := [(p, .inl (0, N, .inl ff)), (q, .inl (0, N, .inl fb))]) [0, 1] [2, 3] 0 dX13_aimed_50 zl_RX13_426 kX13_cells rfl rfl rfl rfl rfl (by decide) rfl rfl (show dd - 1 + 1 ≤ dd by omega) (Nat.zero_le _) (Nat.zero_le _) (Nat.le_of_ble_eq_true rfl) (s_mCells l (dd - 1) mo e g w nw D hR) (fun r K1 hr => ?_)
    obtain ⟨rfl, rfl⟩ := hr
    refine zs_K (K' := [(mo, .inr (11, fMo e g w)), ((e 14), .inl (0, 800, .inl nw)), (p, .inl (0, N, .inl ff)), (q, .inl (0, N, .inl fb))]) [2, 3, 0, 1] rfl (by decide) ?_
    refine zs_icmp_ge (tgt := 92) dX13_aimed_53 (by decide) (fun c_1 => ?_) (fun c_1 => (c_1 (by rw [show i = (D.1 14 * D.1 15) by omega]; exact Int32.le_refl _) : False).elim)
    rw [show i = (D.1 14 * D.1 15) by omega]
    refine zs_lv [0, 1, 2, 3, 4, 5] rfl ?_
    exact hk
  | succ m ih =>
    intro i hi
    have h64 : D.1 14 * D.1 15 ≤ 64 := Nat.mul_le_mul hC hRo
    refine zs_iload dX13_aimed_47 rfl ?_
    refine zs_aload_n dX13_aimed_49 rfl rfl ?_
    refine zs_callV (M := mX13_cells) (As := []) (st := [.int (nI i)]) (Kc := [(mo, .inr (11, fMo e g w)), ((e 14), .inl (0, 800, .inl nw))]) (Kr := [(p, .inl (0, N, .inl ff)), (q, .inl (0, N, .inl fb))]) [0, 1] [2, 3] 0 dX13_aimed_50 zl_RX13_426 kX13_cells rfl rfl rfl rfl rfl (by decide) rfl rfl (show dd - 1 + 1 ≤ dd by omega) (Nat.zero_le _) (Nat.zero_le _) (Nat.le_of_ble_eq_true rfl) (s_mCells l (dd - 1) mo e g w nw D hR) (fun r K1 hr => ?_)
    obtain ⟨rfl, rfl⟩ := hr
    refine zs_K (K' := [(mo, .inr (11, fMo e g w)), ((e 14), .inl (0, 800, .inl nw)), (p, .inl (0, N, .inl ff)), (q, .inl (0, N, .inl fb))]) [2, 3, 0, 1] rfl (by decide) ?_
    refine zs_icmp_ge (tgt := 92) dX13_aimed_53 (by decide) (fun c_1 => (nI_ge (show i < (D.1 14 * D.1 15) by omega) (by omega) c_1 : False).elim) (fun c_1 => ?_)
    refine zs_aload_n dX13_aimed_56 rfl rfl ?_
    refine zs_iload dX13_aimed_57 rfl ?_
    refine zs_aload_n dX13_aimed_59 rfl rfl ?_
    refine zs_aload_n dX13_aimed_60 rfl rfl ?_
    refine zs_iload dX13_aimed_61 rfl ?_
    refine zs_callV (M := mX13_heatOf) (As := [.int (nI i), .ref p, .ref q, .int (nI B)]) (st := []) (Kc := [(mo, .inr (11, fMo e g w)), ((e 14), .inl (0, 800, .inl nw)), (p, .inl (0, N, .inl ff)), (q, .inl (0, N, .inl fb))]) (Kr := []) [0, 1, 2, 3] [] 0 dX13_aimed_63 zl_RX13_432 kX13_heatOf rfl rfl rfl rfl rfl (by decide) rfl rfl (show dd - 1 + 1 ≤ dd by omega) (Nat.zero_le _) (Nat.zero_le _) (Nat.le_of_ble_eq_true rfl) (s_mHeatK l (dd - 1) mo e g w nw D p q N B ff fb i (by omega) hR hC hRo (by omega) (by omega) (by omega)) (fun r K1 hr => ?_)
    obtain ⟨rfl, rfl⟩ := hr
    refine zs_K (K' := [(mo, .inr (11, fMo e g w)), ((e 14), .inl (0, 800, .inl nw)), (p, .inl (0, N, .inl ff)), (q, .inl (0, N, .inl fb))]) [0, 1, 2, 3] rfl (by decide) ?_
    refine zs_istore (lv' := [(8, .int (hK (D.1 14) (D.1 15) D.2.1 (fun j => ff (B + j)) (fun j => fb (B + j)) i)), (0, .ref mo), (1, .int (nI 3)), (2, .ref p), (3, .ref q), (4, .int (nI B)), (5, .int (eO (pHot (fun j => ff (B + j)) (fun j => fb (B + j)) (pH0 (D.1 14) (D.1 15) D.2.1 (fun j => ff (B + j)) (fun j => fb (B + j))) i))), (6, .int (hTop (fun j => ff (B + j)) (fun j => fb (B + j)) (pH0 (D.1 14) (D.1 15) D.2.1 (fun j => ff (B + j)) (fun j => fb (B + j))) i)), (7, .int (nI i))]) dX13_aimed_66 (Nat.le_of_ble_eq_true rfl) rfl ?_
    refine zs_iload dX13_aimed_68 rfl ?_
    refine zs_iload dX13_aimed_70 rfl ?_
    refine zs_icmp_gt (tgt := 78) dX13_aimed_72 (by decide) (fun c_2 => ?_) (fun c_2 => ?_)
    · have hhot := c_2
      refine zs_iload dX13_aimed_78 rfl ?_
      refine zs_istore (lv' := [(6, .int (hK (D.1 14) (D.1 15) D.2.1 (fun j => ff (B + j)) (fun j => fb (B + j)) i)), (8, .int (hK (D.1 14) (D.1 15) D.2.1 (fun j => ff (B + j)) (fun j => fb (B + j)) i)), (0, .ref mo), (1, .int (nI 3)), (2, .ref p), (3, .ref q), (4, .int (nI B)), (5, .int (eO (pHot (fun j => ff (B + j)) (fun j => fb (B + j)) (pH0 (D.1 14) (D.1 15) D.2.1 (fun j => ff (B + j)) (fun j => fb (B + j))) i))), (7, .int (nI i))]) dX13_aimed_80 (Nat.le_of_ble_eq_true rfl) rfl ?_
      refine zs_iload dX13_aimed_82 rfl ?_
      refine zs_istore (lv' := [(5, .int (nI i)), (6, .int (hK (D.1 14) (D.1 15) D.2.1 (fun j => ff (B + j)) (fun j => fb (B + j)) i)), (8, .int (hK (D.1 14) (D.1 15) D.2.1 (fun j => ff (B + j)) (fun j => fb (B + j)) i)), (0, .ref mo), (1, .int (nI 3)), (2, .ref p), (3, .ref q), (4, .int (nI B)), (7, .int (nI i))]) dX13_aimed_84 (Nat.le_of_ble_eq_true rfl) rfl ?_
      refine zs_iinc (v := (nI (i + 1))) (lv' := [(7, .int (nI (i + 1))), (5, .int (nI i)), (6, .int (hK (D.1 14) (D.1 15) D.2.1 (fun j => ff (B + j)) (fun j => fb (B + j)) i)), (8, .int (hK (D.1 14) (D.1 15) D.2.1 (fun j => ff (B + j)) (fun j => fb (B + j)) i)), (0, .ref mo), (1, .int (nI 3)), (2, .ref p), (3, .ref q), (4, .int (nI B))]) dX13_aimed_86 rfl (nI_add _ 1) (Nat.le_of_ble_eq_true rfl) rfl ?_
      refine zs_goto (tgt := 47) dX13_aimed_89 (by decide) ?_
      refine zs_lv [4, 5, 6, 7, 8, 1, 2, 0] rfl ?_
      rw [show nI i = (eO (pHot (fun j => ff (B + j)) (fun j => fb (B + j)) (pH0 (D.1 14) (D.1 15) D.2.1 (fun j => ff (B + j)) (fun j => fb (B + j))) (i + 1))) from (congrArg eO (hot_y hbb (by omega) hhot).1).symm, show (hK (D.1 14) (D.1 15) D.2.1 (fun j => ff (B + j)) (fun j => fb (B + j)) i) = (hTop (fun j => ff (B + j)) (fun j => fb (B + j)) (pH0 (D.1 14) (D.1 15) D.2.1 (fun j => ff (B + j)) (fun j => fb (B + j))) (i + 1)) from (hot_y hbb (by omega) hhot).2.symm]
      exact ih (i + 1) (by omega)
    · have hcold := c_2
      refine zs_goto (tgt := 86) dX13_aimed_75 (by decide) ?_
      refine zs_iinc (v := (nI (i + 1))) (lv' := [(7, .int (nI (i + 1))), (8, .int (hK (D.1 14) (D.1 15) D.2.1 (fun j => ff (B + j)) (fun j => fb (B + j)) i)), (0, .ref mo), (1, .int (nI 3)), (2, .ref p), (3, .ref q), (4, .int (nI B)), (5, .int (eO (pHot (fun j => ff (B + j)) (fun j => fb (B + j)) (pH0 (D.1 14) (D.1 15) D.2.1 (fun j => ff (B + j)) (fun j => fb (B + j))) i))), (6, .int (hTop (fun j => ff (B + j)) (fun j => fb (B + j)) (pH0 (D.1 14) (D.1 15) D.2.1 (fun j => ff (B + j)) (fun j => fb (B + j))) i))]) dX13_aimed_86 rfl (nI_add _ 1) (Nat.le_of_ble_eq_true rfl) rfl ?_
      refine zs_goto (tgt := 47) dX13_aimed_89 (by decide) ?_
      refine zs_lv [2, 3, 4, 5, 6, 7, 8, 0] rfl ?_
      rw [show (eO (pHot (fun j => ff (B + j)) (fun j => fb (B + j)) (pH0 (D.1 14) (D.1 15) D.2.1 (fun j => ff (B + j)) (fun j => fb (B + j))) i)) = (eO (pHot (fun j => ff (B + j)) (fun j => fb (B + j)) (pH0 (D.1 14) (D.1 15) D.2.1 (fun j => ff (B + j)) (fun j => fb (B + j))) (i + 1))) from (congrArg eO (hot_n hcold)).symm, show (hTop (fun j => ff (B + j)) (fun j => fb (B + j)) (pH0 (D.1 14) (D.1 15) D.2.1 (fun j => ff (B + j)) (fun j => fb (B + j))) i) = (hTop (fun j => ff (B + j)) (fun j => fb (B + j)) (pH0 (D.1 14) (D.1 15) D.2.1 (fun j => ff (B + j)) (fun j => fb (B + j))) (i + 1)) from hot_n2 hcold]
      exact ih (i + 1) (by omega)
set_option maxRecDepth 100000 in
theorem lp_maim1 {l : Launch} {dd : Nat} {Po : zPo} {K0 : zK} {h0 : List va_E} {Xo : zK → Prop} {Gc : zG → Prop} (mo : Nat) (e : Nat → Nat) (g : Nat → Int32) (w : Int64) (nw : Nat → Int32) (D : zYd) (p q N B : Nat) (ff fb : Nat → Int32) (hd : 3 ≤ dd) (hR : yR D nw) (hC : D.1 14 ≤ 8) (hRo : D.1 15 ≤ 8) (hN : B + 64 ≤ N) (hN2 : N < 2147483648) (hbb : fBk (D.1 14 * D.1 15) (fun j => ff (B + j)) (fun j => fb (B + j)))
    (hk : zS (l, mX13_aimed, dd, Po, K0, h0, Xo, Gc) 0 0 184 [(5, .int (eO (pBst bMore (fun j => ff (B + j)) (fun j => fb (B + j)) (D.1 14 * D.1 15))))] [] [(mo, .inr (11, fMo e g w)), ((e 14), .inl (0, 800, .inl nw)), (p, .inl (0, N, .inl ff)), (q, .inl (0, N, .inl fb))]) :
    ∀ (m i : Nat) , i + m = (D.1 14 * D.1 15) → zS (l, mX13_aimed, dd, Po, K0, h0, Xo, Gc) 0 0 104 [(0, .ref mo), (1, .int (nI 1)), (2, .ref p), (3, .ref q), (4, .int (nI B)), (5, .int (eO (pBst bMore (fun j => ff (B + j)) (fun j => fb (B + j)) i))), (6, .int (nI i))] [] [(mo, .inr (11, fMo e g w)), ((e 14), .inl (0, 800, .inl nw)), (p, .inl (0, N, .inl ff)), (q, .inl (0, N, .inl fb))] := by
  intro m
  induction m with
  | zero =>
    intro i hi
    have h64 : D.1 14 * D.1 15 ≤ 64 := Nat.mul_le_mul hC hRo
    refine zs_iload dX13_aimed_104 rfl ?_
    refine zs_aload_n dX13_aimed_106 rfl rfl ?_
    refine zs_callV (M := mX13_cells) (As := []) (st := [.int (nI i)]) (Kc := [(mo, .inr (11, fMo e g w)), ((e 14), .inl (0, 800, .inl nw))]) (Kr := [(p, .inl (0, N, .inl ff)), (q, .inl (0, N, .inl fb))]) [0, 1] [2, 3] 0 dX13_aimed_107 zl_RX13_426 kX13_cells rfl rfl rfl rfl rfl (by decide) rfl rfl (show dd - 1 + 1 ≤ dd by omega) (Nat.zero_le _) (Nat.zero_le _) (Nat.le_of_ble_eq_true rfl) (s_mCells l (dd - 1) mo e g w nw D hR) (fun r K1 hr => ?_)
    obtain ⟨rfl, rfl⟩ := hr
    refine zs_K (K' := [(mo, .inr (11, fMo e g w)), ((e 14), .inl (0, 800, .inl nw)), (p, .inl (0, N, .inl ff)), (q, .inl (0, N, .inl fb))]) [2, 3, 0, 1] rfl (by decide) ?_
    refine zs_icmp_ge (tgt := 184) dX13_aimed_110 (by decide) (fun c_1 => ?_) (fun c_1 => (c_1 (by rw [show i = (D.1 14 * D.1 15) by omega]; exact Int32.le_refl _) : False).elim)
    rw [show i = (D.1 14 * D.1 15) by omega]
    refine zs_lv [5] rfl ?_
    exact hk
  | succ m ih =>
    intro i hi
    have h64 : D.1 14 * D.1 15 ≤ 64 := Nat.mul_le_mul hC hRo
    refine zs_iload dX13_aimed_104 rfl ?_
    refine zs_aload_n dX13_aimed_106 rfl rfl ?_
    refine zs_callV (M := mX13_cells) (As := []) (st := [.int (nI i)]) (Kc := [(mo, .inr (11, fMo e g w)), ((e 14), .inl (0, 800, .inl nw))]) (Kr := [(p, .inl (0, N, .inl ff)), (q, .inl (0, N, .inl fb))]) [0, 1] [2, 3] 0 dX13_aimed_107 zl_RX13_426 kX13_cells rfl rfl rfl rfl rfl (by decide) rfl rfl (show dd - 1 + 1 ≤ dd by omega) (Nat.zero_le _) (Nat.zero_le _) (Nat.le_of_ble_eq_true rfl) (s_mCells l (dd - 1) mo e g w nw D hR) (fun r K1 hr => ?_)
    obtain ⟨rfl, rfl⟩ := hr
    refine zs_K (K' := [(mo, .inr (11, fMo e g w)), ((e 14), .inl (0, 800, .inl nw)), (p, .inl (0, N, .inl ff)), (q, .inl (0, N, .inl fb))]) [2, 3, 0, 1] rfl (by decide) ?_
    refine zs_icmp_ge (tgt := 184) dX13_aimed_110 (by decide) (fun c_1 => (nI_ge (show i < (D.1 14 * D.1 15) by omega) (by omega) c_1 : False).elim) (fun c_1 => ?_)
    refine zs_aload_n dX13_aimed_113 rfl rfl ?_
    refine zs_iload dX13_aimed_114 rfl ?_
    refine zs_iload dX13_aimed_116 rfl ?_
    refine zs_iadd dX13_aimed_118 ?_
    refine zs_as (y := nI (B + i)) (nI_add _ _) ?_
    refine zs_iald 3 dX13_aimed_119 rfl (vp_in_nI (by omega) (by omega)) ?_
    refine zs_as (y := fb (B + i)) (by rw [nI_c (n := B + i) (by omega)]) ?_
    refine zs_if_ne (tgt := 126) dX13_aimed_120 (by decide) (fun c_2 => ?_) (fun c_2 => ?_)
    · have hb1 := c_2
      refine zs_iload dX13_aimed_126 rfl ?_
      refine zs_iconst (v := (-1)) dX13_aimed_128 (by decide) ?_
      refine zs_icmp_eq (tgt := 174) dX13_aimed_129 (by decide) (fun c_3 => ?_) (fun c_3 => ?_)
      · have hnone := eO_nn (r := pBst bMore (fun j => ff (B + j)) (fun j => fb (B + j)) i) rfl c_3 (fun k hk => by have := pBst_lt hk; omega)
        refine zs_iload dX13_aimed_174 rfl ?_
        refine zs_istore (lv' := [(5, .int (nI i)), (0, .ref mo), (1, .int (nI 1)), (2, .ref p), (3, .ref q), (4, .int (nI B)), (6, .int (nI i))]) dX13_aimed_176 (Nat.le_of_ble_eq_true rfl) rfl ?_
        refine zs_iinc (v := (nI (i + 1))) (lv' := [(6, .int (nI (i + 1))), (5, .int (nI i)), (0, .ref mo), (1, .int (nI 1)), (2, .ref p), (3, .ref q), (4, .int (nI B))]) dX13_aimed_178 rfl (nI_add _ 1) (Nat.le_of_ble_eq_true rfl) rfl ?_
        refine zs_goto (tgt := 104) dX13_aimed_181 (by decide) ?_
        refine zs_lv [2, 3, 4, 5, 6, 1, 0] rfl ?_
        rw [show nI i = (eO (pBst bMore (fun j => ff (B + j)) (fun j => fb (B + j)) (i + 1))) from (congrArg eO (pBst_n (fu := (fun j => ff (B + j))) (bu := (fun j => fb (B + j))) (k := i) hb1 hnone)).symm]
        exact ih (i + 1) (by omega)
      · obtain ⟨j, hj⟩ := eO_ne c_3
        have hjl := pBst_lt hj
        rw [hj, eO_some]
        refine zs_iload_n dX13_aimed_132 rfl ?_
        refine zs_iconst (v := nI 2) dX13_aimed_133 (by decide) ?_
        refine zs_icmp_ne (tgt := 157) dX13_aimed_134 (by decide) (fun c_4 => ?_) (fun c_4 => (by first | exact absurd c_4 (by decide) | exact absurd (by decide) c_4 : False).elim)
        refine zs_aload_n dX13_aimed_157 rfl rfl ?_
        refine zs_iload dX13_aimed_158 rfl ?_
        refine zs_iload dX13_aimed_160 rfl ?_
        refine zs_iadd dX13_aimed_162 ?_
        refine zs_as (y := nI (B + i)) (nI_add _ _) ?_
        refine zs_iald 2 dX13_aimed_163 rfl (vp_in_nI (by omega) (by omega)) ?_
        refine zs_as (y := ff (B + i)) (by rw [nI_c (n := B + i) (by omega)]) ?_
        refine zs_aload_n dX13_aimed_164 rfl rfl ?_
        refine zs_iload dX13_aimed_165 rfl ?_
        refine zs_iload dX13_aimed_167 rfl ?_
        refine zs_iadd dX13_aimed_169 ?_
        refine zs_as (y := nI (B + j)) (nI_add _ _) ?_
        refine zs_iald 2 dX13_aimed_170 rfl (vp_in_nI (by omega) (by omega)) ?_
        refine zs_as (y := ff (B + j)) (by rw [nI_c (n := B + j) (by omega)]) ?_
        refine zs_icmp_le (tgt := 178) dX13_aimed_171 (by decide) (fun c_5 => ?_) (fun c_5 => ?_)
        · have hno := Int32.not_lt.mpr c_5
          refine zs_iinc (v := (nI (i + 1))) (lv' := [(6, .int (nI (i + 1))), (0, .ref mo), (1, .int (nI 1)), (2, .ref p), (3, .ref q), (4, .int (nI B)), (5, .int (nI j))]) dX13_aimed_178 rfl (nI_add _ 1) (Nat.le_of_ble_eq_true rfl) rfl ?_
          refine zs_goto (tgt := 104) dX13_aimed_181 (by decide) ?_
          refine zs_lv [1, 2, 3, 4, 5, 6, 0] rfl ?_
          rw [show nI j = (eO (pBst bMore (fun j => ff (B + j)) (fun j => fb (B + j)) (i + 1))) from (congrArg eO (pBst_s (fu := (fun j => ff (B + j))) (bu := (fun j => fb (B + j))) (k := i) hb1 hj (fun z => hno (of_decide_eq_true z)))).symm]
          exact ih (i + 1) (by omega)
        · have hyes := Int32.not_le.mp c_5
          refine zs_iload dX13_aimed_174 rfl ?_
          refine zs_istore (lv' := [(5, .int (nI i)), (0, .ref mo), (1, .int (nI 1)), (2, .ref p), (3, .ref q), (4, .int (nI B)), (6, .int (nI i))]) dX13_aimed_176 (Nat.le_of_ble_eq_true rfl) rfl ?_
          refine zs_iinc (v := (nI (i + 1))) (lv' := [(6, .int (nI (i + 1))), (5, .int (nI i)), (0, .ref mo), (1, .int (nI 1)), (2, .ref p), (3, .ref q), (4, .int (nI B))]) dX13_aimed_178 rfl (nI_add _ 1) (Nat.le_of_ble_eq_true rfl) rfl ?_
          refine zs_goto (tgt := 104) dX13_aimed_181 (by decide) ?_
          refine zs_lv [2, 3, 4, 5, 6, 1, 0] rfl ?_
          rw [show nI i = (eO (pBst bMore (fun j => ff (B + j)) (fun j => fb (B + j)) (i + 1))) from (congrArg eO (pBst_y (fu := (fun j => ff (B + j))) (bu := (fun j => fb (B + j))) (k := i) hb1 hj (decide_eq_true hyes))).symm]
          exact ih (i + 1) (by omega)
    · have hb0 := c_2
      refine zs_goto (tgt := 178) dX13_aimed_123 (by decide) ?_
      refine zs_iinc (v := (nI (i + 1))) (lv' := [(6, .int (nI (i + 1))), (0, .ref mo), (1, .int (nI 1)), (2, .ref p), (3, .ref q), (4, .int (nI B)), (5, .int (eO (pBst bMore (fun j => ff (B + j)) (fun j => fb (B + j)) i)))]) dX13_aimed_178 rfl (nI_add _ 1) (Nat.le_of_ble_eq_true rfl) rfl ?_
      refine zs_goto (tgt := 104) dX13_aimed_181 (by decide) ?_
      refine zs_lv [1, 2, 3, 4, 5, 6, 0] rfl ?_
      rw [show (eO (pBst bMore (fun j => ff (B + j)) (fun j => fb (B + j)) i)) = (eO (pBst bMore (fun j => ff (B + j)) (fun j => fb (B + j)) (i + 1))) from (congrArg eO (pBst_0 (fu := (fun j => ff (B + j))) (bu := (fun j => fb (B + j))) (k := i) hb0)).symm]
      exact ih (i + 1) (by omega)
set_option maxRecDepth 100000 in
theorem lp_maim2 {l : Launch} {dd : Nat} {Po : zPo} {K0 : zK} {h0 : List va_E} {Xo : zK → Prop} {Gc : zG → Prop} (mo : Nat) (e : Nat → Nat) (g : Nat → Int32) (w : Int64) (nw : Nat → Int32) (D : zYd) (p q N B : Nat) (ff fb : Nat → Int32) (hd : 3 ≤ dd) (hR : yR D nw) (hC : D.1 14 ≤ 8) (hRo : D.1 15 ≤ 8) (hN : B + 64 ≤ N) (hN2 : N < 2147483648) (hbb : fBk (D.1 14 * D.1 15) (fun j => ff (B + j)) (fun j => fb (B + j)))
    (hk : zS (l, mX13_aimed, dd, Po, K0, h0, Xo, Gc) 0 0 184 [(5, .int (eO (pBst bLess (fun j => ff (B + j)) (fun j => fb (B + j)) (D.1 14 * D.1 15))))] [] [(mo, .inr (11, fMo e g w)), ((e 14), .inl (0, 800, .inl nw)), (p, .inl (0, N, .inl ff)), (q, .inl (0, N, .inl fb))]) :
    ∀ (m i : Nat) , i + m = (D.1 14 * D.1 15) → zS (l, mX13_aimed, dd, Po, K0, h0, Xo, Gc) 0 0 104 [(0, .ref mo), (1, .int (nI 2)), (2, .ref p), (3, .ref q), (4, .int (nI B)), (5, .int (eO (pBst bLess (fun j => ff (B + j)) (fun j => fb (B + j)) i))), (6, .int (nI i))] [] [(mo, .inr (11, fMo e g w)), ((e 14), .inl (0, 800, .inl nw)), (p, .inl (0, N, .inl ff)), (q, .inl (0, N, .inl fb))] := by
  intro m
  induction m with
  | zero =>
    intro i hi
    have h64 : D.1 14 * D.1 15 ≤ 64 := Nat.mul_le_mul hC hRo
    refine zs_iload dX13_aimed_104 rfl ?_
    refine zs_aload_n dX13_aimed_106 rfl rfl ?_
    refine zs_callV (M := mX13_cells) (As := []) (st := [.int (nI i)]) (Kc := [(mo, .inr (11, fMo e g w)), ((e 14), .inl (0, 800, .inl nw))]) (Kr := [(p, .inl (0, N, .inl ff)), (q, .inl (0, N, .inl fb))]) [0, 1] [2, 3] 0 dX13_aimed_107 zl_RX13_426 kX13_cells rfl rfl rfl rfl rfl (by decide) rfl rfl (show dd - 1 + 1 ≤ dd by omega) (Nat.zero_le _) (Nat.zero_le _) (Nat.le_of_ble_eq_true rfl) (s_mCells l (dd - 1) mo e g w nw D hR) (fun r K1 hr => ?_)
    obtain ⟨rfl, rfl⟩ := hr
    refine zs_K (K' := [(mo, .inr (11, fMo e g w)), ((e 14), .inl (0, 800, .inl nw)), (p, .inl (0, N, .inl ff)), (q, .inl (0, N, .inl fb))]) [2, 3, 0, 1] rfl (by decide) ?_
    refine zs_icmp_ge (tgt := 184) dX13_aimed_110 (by decide) (fun c_1 => ?_) (fun c_1 => (c_1 (by rw [show i = (D.1 14 * D.1 15) by omega]; exact Int32.le_refl _) : False).elim)
    rw [show i = (D.1 14 * D.1 15) by omega]
    refine zs_lv [5] rfl ?_
    exact hk
  | succ m ih =>
    intro i hi
    have h64 : D.1 14 * D.1 15 ≤ 64 := Nat.mul_le_mul hC hRo
    refine zs_iload dX13_aimed_104 rfl ?_
    refine zs_aload_n dX13_aimed_106 rfl rfl ?_
    refine zs_callV (M := mX13_cells) (As := []) (st := [.int (nI i)]) (Kc := [(mo, .inr (11, fMo e g w)), ((e 14), .inl (0, 800, .inl nw))]) (Kr := [(p, .inl (0, N, .inl ff)), (q, .inl (0, N, .inl fb))]) [0, 1] [2, 3] 0 dX13_aimed_107 zl_RX13_426 kX13_cells rfl rfl rfl rfl rfl (by decide) rfl rfl (show dd - 1 + 1 ≤ dd by omega) (Nat.zero_le _) (Nat.zero_le _) (Nat.le_of_ble_eq_true rfl) (s_mCells l (dd - 1) mo e g w nw D hR) (fun r K1 hr => ?_)
    obtain ⟨rfl, rfl⟩ := hr
    refine zs_K (K' := [(mo, .inr (11, fMo e g w)), ((e 14), .inl (0, 800, .inl nw)), (p, .inl (0, N, .inl ff)), (q, .inl (0, N, .inl fb))]) [2, 3, 0, 1] rfl (by decide) ?_
    refine zs_icmp_ge (tgt := 184) dX13_aimed_110 (by decide) (fun c_1 => (nI_ge (show i < (D.1 14 * D.1 15) by omega) (by omega) c_1 : False).elim) (fun c_1 => ?_)
    refine zs_aload_n dX13_aimed_113 rfl rfl ?_
    refine zs_iload dX13_aimed_114 rfl ?_
    refine zs_iload dX13_aimed_116 rfl ?_
    refine zs_iadd dX13_aimed_118 ?_
    refine zs_as (y := nI (B + i)) (nI_add _ _) ?_
    refine zs_iald 3 dX13_aimed_119 rfl (vp_in_nI (by omega) (by omega)) ?_
    refine zs_as (y := fb (B + i)) (by rw [nI_c (n := B + i) (by omega)]) ?_
    refine zs_if_ne (tgt := 126) dX13_aimed_120 (by decide) (fun c_2 => ?_) (fun c_2 => ?_)
    · have hb1 := c_2
      refine zs_iload dX13_aimed_126 rfl ?_
      refine zs_iconst (v := (-1)) dX13_aimed_128 (by decide) ?_
      refine zs_icmp_eq (tgt := 174) dX13_aimed_129 (by decide) (fun c_3 => ?_) (fun c_3 => ?_)
      · have hnone := eO_nn (r := pBst bLess (fun j => ff (B + j)) (fun j => fb (B + j)) i) rfl c_3 (fun k hk => by have := pBst_lt hk; omega)
        refine zs_iload dX13_aimed_174 rfl ?_
        refine zs_istore (lv' := [(5, .int (nI i)), (0, .ref mo), (1, .int (nI 2)), (2, .ref p), (3, .ref q), (4, .int (nI B)), (6, .int (nI i))]) dX13_aimed_176 (Nat.le_of_ble_eq_true rfl) rfl ?_
        refine zs_iinc (v := (nI (i + 1))) (lv' := [(6, .int (nI (i + 1))), (5, .int (nI i)), (0, .ref mo), (1, .int (nI 2)), (2, .ref p), (3, .ref q), (4, .int (nI B))]) dX13_aimed_178 rfl (nI_add _ 1) (Nat.le_of_ble_eq_true rfl) rfl ?_
        refine zs_goto (tgt := 104) dX13_aimed_181 (by decide) ?_
        refine zs_lv [2, 3, 4, 5, 6, 1, 0] rfl ?_
        rw [show nI i = (eO (pBst bLess (fun j => ff (B + j)) (fun j => fb (B + j)) (i + 1))) from (congrArg eO (pBst_n (fu := (fun j => ff (B + j))) (bu := (fun j => fb (B + j))) (k := i) hb1 hnone)).symm]
        exact ih (i + 1) (by omega)
      · obtain ⟨j, hj⟩ := eO_ne c_3
        have hjl := pBst_lt hj
        rw [hj, eO_some]
        refine zs_iload_n dX13_aimed_132 rfl ?_
        refine zs_iconst (v := nI 2) dX13_aimed_133 (by decide) ?_
        refine zs_icmp_ne (tgt := 157) dX13_aimed_134 (by decide) (fun c_4 => (by first | exact absurd c_4 (by decide) | exact absurd (by decide) c_4 : False).elim) (fun c_4 => ?_)
        refine zs_aload_n dX13_aimed_137 rfl rfl ?_
        refine zs_iload dX13_aimed_138 rfl ?_
        refine zs_iload dX13_aimed_140 rfl ?_
        refine zs_iadd dX13_aimed_142 ?_
        refine zs_as (y := nI (B + i)) (nI_add _ _) ?_
        refine zs_iald 2 dX13_aimed_143 rfl (vp_in_nI (by omega) (by omega)) ?_
        refine zs_as (y := ff (B + i)) (by rw [nI_c (n := B + i) (by omega)]) ?_
        refine zs_aload_n dX13_aimed_144 rfl rfl ?_
        refine zs_iload dX13_aimed_145 rfl ?_
        refine zs_iload dX13_aimed_147 rfl ?_
        refine zs_iadd dX13_aimed_149 ?_
        refine zs_as (y := nI (B + j)) (nI_add _ _) ?_
        refine zs_iald 2 dX13_aimed_150 rfl (vp_in_nI (by omega) (by omega)) ?_
        refine zs_as (y := ff (B + j)) (by rw [nI_c (n := B + j) (by omega)]) ?_
        refine zs_icmp_ge (tgt := 178) dX13_aimed_151 (by decide) (fun c_5 => ?_) (fun c_5 => ?_)
        · have hno := Int32.not_lt.mpr c_5
          refine zs_iinc (v := (nI (i + 1))) (lv' := [(6, .int (nI (i + 1))), (0, .ref mo), (1, .int (nI 2)), (2, .ref p), (3, .ref q), (4, .int (nI B)), (5, .int (nI j))]) dX13_aimed_178 rfl (nI_add _ 1) (Nat.le_of_ble_eq_true rfl) rfl ?_
          refine zs_goto (tgt := 104) dX13_aimed_181 (by decide) ?_
          refine zs_lv [1, 2, 3, 4, 5, 6, 0] rfl ?_
          rw [show nI j = (eO (pBst bLess (fun j => ff (B + j)) (fun j => fb (B + j)) (i + 1))) from (congrArg eO (pBst_s (fu := (fun j => ff (B + j))) (bu := (fun j => fb (B + j))) (k := i) hb1 hj (fun z => hno (of_decide_eq_true z)))).symm]
          exact ih (i + 1) (by omega)
        · have hyes := Int32.not_le.mp c_5
          refine zs_goto (tgt := 174) dX13_aimed_154 (by decide) ?_
          refine zs_iload dX13_aimed_174 rfl ?_
          refine zs_istore (lv' := [(5, .int (nI i)), (0, .ref mo), (1, .int (nI 2)), (2, .ref p), (3, .ref q), (4, .int (nI B)), (6, .int (nI i))]) dX13_aimed_176 (Nat.le_of_ble_eq_true rfl) rfl ?_
          refine zs_iinc (v := (nI (i + 1))) (lv' := [(6, .int (nI (i + 1))), (5, .int (nI i)), (0, .ref mo), (1, .int (nI 2)), (2, .ref p), (3, .ref q), (4, .int (nI B))]) dX13_aimed_178 rfl (nI_add _ 1) (Nat.le_of_ble_eq_true rfl) rfl ?_
          refine zs_goto (tgt := 104) dX13_aimed_181 (by decide) ?_
          refine zs_lv [2, 3, 4, 5, 6, 1, 0] rfl ?_
          rw [show nI i = (eO (pBst bLess (fun j => ff (B + j)) (fun j => fb (B + j)) (i + 1))) from (congrArg eO (pBst_y (fu := (fun j => ff (B + j))) (bu := (fun j => fb (B + j))) (k := i) hb1 hj (decide_eq_true hyes))).symm]
          exact ih (i + 1) (by omega)
    · have hb0 := c_2
      refine zs_goto (tgt := 178) dX13_aimed_123 (by decide) ?_
      refine zs_iinc (v := (nI (i + 1))) (lv' := [(6, .int (nI (i + 1))), (0, .ref mo), (1, .int (nI 2)), (2, .ref p), (3, .ref q), (4, .int (nI B)), (5, .int (eO (pBst bLess (fun j => ff (B + j)) (fun j => fb (B + j)) i)))]) dX13_aimed_178 rfl (nI_add _ 1) (Nat.le_of_ble_eq_true rfl) rfl ?_
      refine zs_goto (tgt := 104) dX13_aimed_181 (by decide) ?_
      refine zs_lv [1, 2, 3, 4, 5, 6, 0] rfl ?_
      rw [show (eO (pBst bLess (fun j => ff (B + j)) (fun j => fb (B + j)) i)) = (eO (pBst bLess (fun j => ff (B + j)) (fun j => fb (B + j)) (i + 1))) from (congrArg eO (pBst_0 (fu := (fun j => ff (B + j))) (bu := (fun j => fb (B + j))) (k := i) hb0)).symm]
      exact ih (i + 1) (by omega)
set_option maxRecDepth 100000 in
theorem lp_maim3 {l : Launch} {dd : Nat} {Po : zPo} {K0 : zK} {h0 : List va_E} {Xo : zK → Prop} {Gc : zG → Prop} (mo : Nat) (e : Nat → Nat) (g : Nat → Int32) (w : Int64) (nw : Nat → Int32) (D : zYd) (p q N B : Nat) (ff fb : Nat → Int32) (hd : 3 ≤ dd) (hR : yR D nw) (hC : D.1 14 ≤ 8) (hRo : D.1 15 ≤ 8) (hN : B + 64 ≤ N) (hN2 : N < 2147483648) (hbb : fBk (D.1 14 * D.1 15) (fun j => ff (B + j)) (fun j => fb (B + j)))
    (hk : zS (l, mX13_aimed, dd, Po, K0, h0, Xo, Gc) 0 0 184 [(5, .int (eO (pBst bMore (fun j => ff (B + j)) (fun j => fb (B + j)) (D.1 14 * D.1 15))))] [] [(mo, .inr (11, fMo e g w)), ((e 14), .inl (0, 800, .inl nw)), (p, .inl (0, N, .inl ff)), (q, .inl (0, N, .inl fb))]) :
    ∀ (m i : Nat) , i + m = (D.1 14 * D.1 15) → zS (l, mX13_aimed, dd, Po, K0, h0, Xo, Gc) 0 0 104 [(0, .ref mo), (1, .int (nI 3)), (2, .ref p), (3, .ref q), (4, .int (nI B)), (5, .int (eO (pBst bMore (fun j => ff (B + j)) (fun j => fb (B + j)) i))), (6, .int (nI i))] [] [(mo, .inr (11, fMo e g w)), ((e 14), .inl (0, 800, .inl nw)), (p, .inl (0, N, .inl ff)), (q, .inl (0, N, .inl fb))] := by
  intro m
  induction m with
  | zero =>
    intro i hi
    have h64 : D.1 14 * D.1 15 ≤ 64 := Nat.mul_le_mul hC hRo
    refine zs_iload dX13_aimed_104 rfl ?_
    refine zs_aload_n dX13_aimed_106 rfl rfl ?_
    refine zs_callV (M := mX13_cells) (As := []) (st := [.int (nI i)]) (Kc := [(mo, .inr (11, fMo e g w)), ((e 14), .inl (0, 800, .inl nw))]) (Kr := [(p, .inl (0, N, .inl ff)), (q, .inl (0, N, .inl fb))]) [0, 1] [2, 3] 0 dX13_aimed_107 zl_RX13_426 kX13_cells rfl rfl rfl rfl rfl (by decide) rfl rfl (show dd - 1 + 1 ≤ dd by omega) (Nat.zero_le _) (Nat.zero_le _) (Nat.le_of_ble_eq_true rfl) (s_mCells l (dd - 1) mo e g w nw D hR) (fun r K1 hr => ?_)
    obtain ⟨rfl, rfl⟩ := hr
    refine zs_K (K' := [(mo, .inr (11, fMo e g w)), ((e 14), .inl (0, 800, .inl nw)), (p, .inl (0, N, .inl ff)), (q, .inl (0, N, .inl fb))]) [2, 3, 0, 1] rfl (by decide) ?_
    refine zs_icmp_ge (tgt := 184) dX13_aimed_110 (by decide) (fun c_1 => ?_) (fun c_1 => (c_1 (by rw [show i = (D.1 14 * D.1 15) by omega]; exact Int32.le_refl _) : False).elim)
    rw [show i = (D.1 14 * D.1 15) by omega]
    refine zs_lv [5] rfl ?_
    exact hk
  | succ m ih =>
    intro i hi
    have h64 : D.1 14 * D.1 15 ≤ 64 := Nat.mul_le_mul hC hRo
    refine zs_iload dX13_aimed_104 rfl ?_
    refine zs_aload_n dX13_aimed_106 rfl rfl ?_
    refine zs_callV (M := mX13_cells) (As := []) (st := [.int (nI i)]) (Kc := [(mo, .inr (11, fMo e g w)), ((e 14), .inl (0, 800, .inl nw))]) (Kr := [(p, .inl (0, N, .inl ff)), (q, .inl (0, N, .inl fb))]) [0, 1] [2, 3] 0 dX13_aimed_107 zl_RX13_426 kX13_cells rfl rfl rfl rfl rfl (by decide) rfl rfl (show dd - 1 + 1 ≤ dd by omega) (Nat.zero_le _) (Nat.zero_le _) (Nat.le_of_ble_eq_true rfl) (s_mCells l (dd - 1) mo e g w nw D hR) (fun r K1 hr => ?_)
    obtain ⟨rfl, rfl⟩ := hr
    refine zs_K (K' := [(mo, .inr (11, fMo e g w)), ((e 14), .inl (0, 800, .inl nw)), (p, .inl (0, N, .inl ff)), (q, .inl (0, N, .inl fb))]) [2, 3, 0, 1] rfl (by decide) ?_
    refine zs_icmp_ge (tgt := 184) dX13_aimed_110 (by decide) (fun c_1 => (nI_ge (show i < (D.1 14 * D.1 15) by omega) (by omega) c_1 : False).elim) (fun c_1 => ?_)
    refine zs_aload_n dX13_aimed_113 rfl rfl ?_
    refine zs_iload dX13_aimed_114 rfl ?_
    refine zs_iload dX13_aimed_116 rfl ?_
    refine zs_iadd dX13_aimed_118 ?_
    refine zs_as (y := nI (B + i)) (nI_add _ _) ?_
    refine zs_iald 3 dX13_aimed_119 rfl (vp_in_nI (by omega) (by omega)) ?_
    refine zs_as (y := fb (B + i)) (by rw [nI_c (n := B + i) (by omega)]) ?_
    refine zs_if_ne (tgt := 126) dX13_aimed_120 (by decide) (fun c_2 => ?_) (fun c_2 => ?_)
    · have hb1 := c_2
      refine zs_iload dX13_aimed_126 rfl ?_
      refine zs_iconst (v := (-1)) dX13_aimed_128 (by decide) ?_
      refine zs_icmp_eq (tgt := 174) dX13_aimed_129 (by decide) (fun c_3 => ?_) (fun c_3 => ?_)
      · have hnone := eO_nn (r := pBst bMore (fun j => ff (B + j)) (fun j => fb (B + j)) i) rfl c_3 (fun k hk => by have := pBst_lt hk; omega)
        refine zs_iload dX13_aimed_174 rfl ?_
        refine zs_istore (lv' := [(5, .int (nI i)), (0, .ref mo), (1, .int (nI 3)), (2, .ref p), (3, .ref q), (4, .int (nI B)), (6, .int (nI i))]) dX13_aimed_176 (Nat.le_of_ble_eq_true rfl) rfl ?_
        refine zs_iinc (v := (nI (i + 1))) (lv' := [(6, .int (nI (i + 1))), (5, .int (nI i)), (0, .ref mo), (1, .int (nI 3)), (2, .ref p), (3, .ref q), (4, .int (nI B))]) dX13_aimed_178 rfl (nI_add _ 1) (Nat.le_of_ble_eq_true rfl) rfl ?_
        refine zs_goto (tgt := 104) dX13_aimed_181 (by decide) ?_
        refine zs_lv [2, 3, 4, 5, 6, 1, 0] rfl ?_
        rw [show nI i = (eO (pBst bMore (fun j => ff (B + j)) (fun j => fb (B + j)) (i + 1))) from (congrArg eO (pBst_n (fu := (fun j => ff (B + j))) (bu := (fun j => fb (B + j))) (k := i) hb1 hnone)).symm]
        exact ih (i + 1) (by omega)
      · obtain ⟨j, hj⟩ := eO_ne c_3
        have hjl := pBst_lt hj
        rw [hj, eO_some]
        refine zs_iload_n dX13_aimed_132 rfl ?_
        refine zs_iconst (v := nI 2) dX13_aimed_133 (by decide) ?_
        refine zs_icmp_ne (tgt := 157) dX13_aimed_134 (by decide) (fun c_4 => ?_) (fun c_4 => (by first | exact absurd c_4 (by decide) | exact absurd (by decide) c_4 : False).elim)
        refine zs_aload_n dX13_aimed_157 rfl rfl ?_
        refine zs_iload dX13_aimed_158 rfl ?_
        refine zs_iload dX13_aimed_160 rfl ?_
        refine zs_iadd dX13_aimed_162 ?_
        refine zs_as (y := nI (B + i)) (nI_add _ _) ?_
        refine zs_iald 2 dX13_aimed_163 rfl (vp_in_nI (by omega) (by omega)) ?_
        refine zs_as (y := ff (B + i)) (by rw [nI_c (n := B + i) (by omega)]) ?_
        refine zs_aload_n dX13_aimed_164 rfl rfl ?_
        refine zs_iload dX13_aimed_165 rfl ?_
        refine zs_iload dX13_aimed_167 rfl ?_
        refine zs_iadd dX13_aimed_169 ?_
        refine zs_as (y := nI (B + j)) (nI_add _ _) ?_
        refine zs_iald 2 dX13_aimed_170 rfl (vp_in_nI (by omega) (by omega)) ?_
        refine zs_as (y := ff (B + j)) (by rw [nI_c (n := B + j) (by omega)]) ?_
        refine zs_icmp_le (tgt := 178) dX13_aimed_171 (by decide) (fun c_5 => ?_) (fun c_5 => ?_)
        · have hno := Int32.not_lt.mpr c_5
          refine zs_iinc (v := (nI (i + 1))) (lv' := [(6, .int (nI (i + 1))), (0, .ref mo), (1, .int (nI 3)), (2, .ref p), (3, .ref q), (4, .int (nI B)), (5, .int (nI j))]) dX13_aimed_178 rfl (nI_add _ 1) (Nat.le_of_ble_eq_true rfl) rfl ?_
          refine zs_goto (tgt := 104) dX13_aimed_181 (by decide) ?_
          refine zs_lv [1, 2, 3, 4, 5, 6, 0] rfl ?_
          rw [show nI j = (eO (pBst bMore (fun j => ff (B + j)) (fun j => fb (B + j)) (i + 1))) from (congrArg eO (pBst_s (fu := (fun j => ff (B + j))) (bu := (fun j => fb (B + j))) (k := i) hb1 hj (fun z => hno (of_decide_eq_true z)))).symm]
          exact ih (i + 1) (by omega)
        · have hyes := Int32.not_le.mp c_5
          refine zs_iload dX13_aimed_174 rfl ?_
          refine zs_istore (lv' := [(5, .int (nI i)), (0, .ref mo), (1, .int (nI 3)), (2, .ref p), (3, .ref q), (4, .int (nI B)), (6, .int (nI i))]) dX13_aimed_176 (Nat.le_of_ble_eq_true rfl) rfl ?_
          refine zs_iinc (v := (nI (i + 1))) (lv' := [(6, .int (nI (i + 1))), (5, .int (nI i)), (0, .ref mo), (1, .int (nI 3)), (2, .ref p), (3, .ref q), (4, .int (nI B))]) dX13_aimed_178 rfl (nI_add _ 1) (Nat.le_of_ble_eq_true rfl) rfl ?_
          refine zs_goto (tgt := 104) dX13_aimed_181 (by decide) ?_
          refine zs_lv [2, 3, 4, 5, 6, 1, 0] rfl ?_
          rw [show nI i = (eO (pBst bMore (fun j => ff (B + j)) (fun j => fb (B + j)) (i + 1))) from (congrArg eO (pBst_y (fu := (fun j => ff (B + j))) (bu := (fun j => fb (B + j))) (k := i) hb1 hj (decide_eq_true hyes))).symm]
          exact ih (i + 1) (by omega)
    · have hb0 := c_2
      refine zs_goto (tgt := 178) dX13_aimed_123 (by decide) ?_
      refine zs_iinc (v := (nI (i + 1))) (lv' := [(6, .int (nI (i + 1))), (0, .ref mo), (1, .int (nI 3)), (2, .ref p), (3, .ref q), (4, .int (nI B)), (5, .int (eO (pBst bMore (fun j => ff (B + j)) (fun j => fb (B + j)) i)))]) dX13_aimed_178 rfl (nI_add _ 1) (Nat.le_of_ble_eq_true rfl) rfl ?_
      refine zs_goto (tgt := 104) dX13_aimed_181 (by decide) ?_
      refine zs_lv [1, 2, 3, 4, 5, 6, 0] rfl ?_
      rw [show (eO (pBst bMore (fun j => ff (B + j)) (fun j => fb (B + j)) i)) = (eO (pBst bMore (fun j => ff (B + j)) (fun j => fb (B + j)) (i + 1))) from (congrArg eO (pBst_0 (fu := (fun j => ff (B + j))) (bu := (fun j => fb (B + j))) (k := i) hb0)).symm]
      exact ih (i + 1) (by omega)
set_option maxRecDepth 100000 in
theorem s_mAim0 (l : Launch) (dd : Nat) (mo : Nat) (e : Nat → Nat) (g : Nat → Int32) (w : Int64) (nw : Nat → Int32) (D : zYd) (p q N B : Nat) (ff fb : Nat → Int32) (hd : 3 ≤ dd) (hR : yR D nw) (hC : D.1 14 ≤ 8) (hRo : D.1 15 ≤ 8) (hN : B + 64 ≤ N) (hN2 : N < 2147483648) (hbb : fBk (D.1 14 * D.1 15) (fun j => ff (B + j)) (fun j => fb (B + j))) : zSp l mX13_aimed dd 0 0 [.ref mo, .int (nI 0), .ref p, .ref q, .int (nI B)] [(mo, .inr (11, fMo e g w)), ((e 14), .inl (0, 800, .inl nw)), (p, .inl (0, N, .inl ff)), (q, .inl (0, N, .inl fb))] (fun r K' => r = some (.int (pAim (D.1 14) (D.1 14 * D.1 15) (fun j => ff (B + j)) (fun j => fb (B + j)) (pH0 (D.1 14) (D.1 15) D.2.1 (fun j => ff (B + j)) (fun j => fb (B + j))) (nI 0))) ∧ K' = [(mo, .inr (11, fMo e g w)), ((e 14), .inl (0, 800, .inl nw)), (p, .inl (0, N, .inl ff)), (q, .inl (0, N, .inl fb))]) := by
  refine zSp.of (by decide) (Nat.le_of_ble_eq_true rfl) (fun h0 => ?_)
  show zS _ 0 0 0 [(0, .ref mo), (1, .int (nI 0)), (2, .ref p), (3, .ref q), (4, .int (nI B))] [] [(mo, .inr (11, fMo e g w)), ((e 14), .inl (0, 800, .inl nw)), (p, .inl (0, N, .inl ff)), (q, .inl (0, N, .inl fb))]
  refine zs_iload_n dX13_aimed_0 rfl ?_
  refine zs_if_ne (tgt := 6) dX13_aimed_1 (by decide) (fun c_1 => (by first | exact absurd c_1 (by decide) | exact absurd (by decide) c_1 : False).elim) (fun c_1 => ?_)
  refine zs_iconst (v := (-1)) dX13_aimed_4 (by decide) ?_
  exact zs_iret dX13_aimed_5 rfl ⟨congrArg (fun v => some (Value.int v)) (by symm; unfold pAim; rw [if_pos (by decide), if_neg (by decide), if_neg (by decide), if_neg (by decide)]), rfl⟩
set_option maxRecDepth 100000 in
theorem s_mAim1 (l : Launch) (dd : Nat) (mo : Nat) (e : Nat → Nat) (g : Nat → Int32) (w : Int64) (nw : Nat → Int32) (D : zYd) (p q N B : Nat) (ff fb : Nat → Int32) (hd : 3 ≤ dd) (hR : yR D nw) (hC : D.1 14 ≤ 8) (hRo : D.1 15 ≤ 8) (hN : B + 64 ≤ N) (hN2 : N < 2147483648) (hbb : fBk (D.1 14 * D.1 15) (fun j => ff (B + j)) (fun j => fb (B + j))) : zSp l mX13_aimed dd 0 0 [.ref mo, .int (nI 1), .ref p, .ref q, .int (nI B)] [(mo, .inr (11, fMo e g w)), ((e 14), .inl (0, 800, .inl nw)), (p, .inl (0, N, .inl ff)), (q, .inl (0, N, .inl fb))] (fun r K' => r = some (.int (pAim (D.1 14) (D.1 14 * D.1 15) (fun j => ff (B + j)) (fun j => fb (B + j)) (pH0 (D.1 14) (D.1 15) D.2.1 (fun j => ff (B + j)) (fun j => fb (B + j))) (nI 1))) ∧ K' = [(mo, .inr (11, fMo e g w)), ((e 14), .inl (0, 800, .inl nw)), (p, .inl (0, N, .inl ff)), (q, .inl (0, N, .inl fb))]) := by
  refine zSp.of (by decide) (Nat.le_of_ble_eq_true rfl) (fun h0 => ?_)
  show zS _ 0 0 0 [(0, .ref mo), (1, .int (nI 1)), (2, .ref p), (3, .ref q), (4, .int (nI B))] [] [(mo, .inr (11, fMo e g w)), ((e 14), .inl (0, 800, .inl nw)), (p, .inl (0, N, .inl ff)), (q, .inl (0, N, .inl fb))]
  refine zs_iload_n dX13_aimed_0 rfl ?_
  refine zs_if_ne (tgt := 6) dX13_aimed_1 (by decide) (fun c_1 => ?_) (fun c_1 => (by first | exact absurd c_1 (by decide) | exact absurd (by decide) c_1 : False).elim)
  refine zs_iload_n dX13_aimed_6 rfl ?_
  refine zs_bipush (v := nI 100) dX13_aimed_7 (by decide) ?_
  refine zs_icmp_lt (tgt := 33) dX13_aimed_9 (by decide) (fun c_2 => ?_) (fun c_2 => (by first | exact absurd c_2 (by decide) | exact absurd (by decide) c_2 : False).elim)
  refine zs_iconst (v := (-1)) dX13_aimed_33 (by decide) ?_
  refine zs_istore (lv' := [(5, .int (-1)), (0, .ref mo), (1, .int (nI 1)), (2, .ref p), (3, .ref q), (4, .int (nI B))]) dX13_aimed_34 (Nat.le_of_ble_eq_true rfl) rfl ?_
  refine zs_iload_n dX13_aimed_36 rfl ?_
  refine zs_iconst (v := nI 3) dX13_aimed_37 (by decide) ?_
  refine zs_icmp_ne (tgt := 101) dX13_aimed_38 (by decide) (fun c_3 => ?_) (fun c_3 => (by first | exact absurd c_3 (by decide) | exact absurd (by decide) c_3 : False).elim)
  refine zs_iconst (v := nI 0) dX13_aimed_101 (by decide) ?_
  refine zs_istore (lv' := [(6, .int (nI 0)), (5, .int (-1)), (0, .ref mo), (1, .int (nI 1)), (2, .ref p), (3, .ref q), (4, .int (nI B))]) dX13_aimed_102 (Nat.le_of_ble_eq_true rfl) rfl ?_
  refine zs_lv [2, 3, 4, 5, 6, 1, 0] rfl ?_
  refine lp_maim1 mo e g w nw D p q N B ff fb hd hR hC hRo hN hN2 hbb ?_ (D.1 14 * D.1 15) 0 (Nat.zero_add _)
  refine zs_iload dX13_aimed_184 rfl ?_
  exact zs_iret dX13_aimed_186 rfl ⟨congrArg (fun v => some (Value.int v)) (by symm; unfold pAim; rw [if_pos (by decide), if_neg (by decide), if_pos (by decide)]), rfl⟩
set_option maxRecDepth 100000 in
theorem s_mAim2 (l : Launch) (dd : Nat) (mo : Nat) (e : Nat → Nat) (g : Nat → Int32) (w : Int64) (nw : Nat → Int32) (D : zYd) (p q N B : Nat) (ff fb : Nat → Int32) (hd : 3 ≤ dd) (hR : yR D nw) (hC : D.1 14 ≤ 8) (hRo : D.1 15 ≤ 8) (hN : B + 64 ≤ N) (hN2 : N < 2147483648) (hbb : fBk (D.1 14 * D.1 15) (fun j => ff (B + j)) (fun j => fb (B + j))) : zSp l mX13_aimed dd 0 0 [.ref mo, .int (nI 2), .ref p, .ref q, .int (nI B)] [(mo, .inr (11, fMo e g w)), ((e 14), .inl (0, 800, .inl nw)), (p, .inl (0, N, .inl ff)), (q, .inl (0, N, .inl fb))] (fun r K' => r = some (.int (pAim (D.1 14) (D.1 14 * D.1 15) (fun j => ff (B + j)) (fun j => fb (B + j)) (pH0 (D.1 14) (D.1 15) D.2.1 (fun j => ff (B + j)) (fun j => fb (B + j))) (nI 2))) ∧ K' = [(mo, .inr (11, fMo e g w)), ((e 14), .inl (0, 800, .inl nw)), (p, .inl (0, N, .inl ff)), (q, .inl (0, N, .inl fb))]) := by
  refine zSp.of (by decide) (Nat.le_of_ble_eq_true rfl) (fun h0 => ?_)
  show zS _ 0 0 0 [(0, .ref mo), (1, .int (nI 2)), (2, .ref p), (3, .ref q), (4, .int (nI B))] [] [(mo, .inr (11, fMo e g w)), ((e 14), .inl (0, 800, .inl nw)), (p, .inl (0, N, .inl ff)), (q, .inl (0, N, .inl fb))]
  refine zs_iload_n dX13_aimed_0 rfl ?_
  refine zs_if_ne (tgt := 6) dX13_aimed_1 (by decide) (fun c_1 => ?_) (fun c_1 => (by first | exact absurd c_1 (by decide) | exact absurd (by decide) c_1 : False).elim)
  refine zs_iload_n dX13_aimed_6 rfl ?_
  refine zs_bipush (v := nI 100) dX13_aimed_7 (by decide) ?_
  refine zs_icmp_lt (tgt := 33) dX13_aimed_9 (by decide) (fun c_2 => ?_) (fun c_2 => (by first | exact absurd c_2 (by decide) | exact absurd (by decide) c_2 : False).elim)
  refine zs_iconst (v := (-1)) dX13_aimed_33 (by decide) ?_
  refine zs_istore (lv' := [(5, .int (-1)), (0, .ref mo), (1, .int (nI 2)), (2, .ref p), (3, .ref q), (4, .int (nI B))]) dX13_aimed_34 (Nat.le_of_ble_eq_true rfl) rfl ?_
  refine zs_iload_n dX13_aimed_36 rfl ?_
  refine zs_iconst (v := nI 3) dX13_aimed_37 (by decide) ?_
  refine zs_icmp_ne (tgt := 101) dX13_aimed_38 (by decide) (fun c_3 => ?_) (fun c_3 => (by first | exact absurd c_3 (by decide) | exact absurd (by decide) c_3 : False).elim)
  refine zs_iconst (v := nI 0) dX13_aimed_101 (by decide) ?_
  refine zs_istore (lv' := [(6, .int (nI 0)), (5, .int (-1)), (0, .ref mo), (1, .int (nI 2)), (2, .ref p), (3, .ref q), (4, .int (nI B))]) dX13_aimed_102 (Nat.le_of_ble_eq_true rfl) rfl ?_
  refine zs_lv [2, 3, 4, 5, 6, 1, 0] rfl ?_
  refine lp_maim2 mo e g w nw D p q N B ff fb hd hR hC hRo hN hN2 hbb ?_ (D.1 14 * D.1 15) 0 (Nat.zero_add _)
  refine zs_iload dX13_aimed_184 rfl ?_
  exact zs_iret dX13_aimed_186 rfl ⟨congrArg (fun v => some (Value.int v)) (by symm; unfold pAim; rw [if_pos (by decide), if_neg (by decide), if_neg (by decide), if_pos (by decide)]), rfl⟩
set_option maxRecDepth 100000 in
theorem s_mAim3 (l : Launch) (dd : Nat) (mo : Nat) (e : Nat → Nat) (g : Nat → Int32) (w : Int64) (nw : Nat → Int32) (D : zYd) (p q N B : Nat) (ff fb : Nat → Int32) (hd : 3 ≤ dd) (hR : yR D nw) (hC : D.1 14 ≤ 8) (hRo : D.1 15 ≤ 8) (hN : B + 64 ≤ N) (hN2 : N < 2147483648) (hbb : fBk (D.1 14 * D.1 15) (fun j => ff (B + j)) (fun j => fb (B + j))) : zSp l mX13_aimed dd 0 0 [.ref mo, .int (nI 3), .ref p, .ref q, .int (nI B)] [(mo, .inr (11, fMo e g w)), ((e 14), .inl (0, 800, .inl nw)), (p, .inl (0, N, .inl ff)), (q, .inl (0, N, .inl fb))] (fun r K' => r = some (.int (pAim (D.1 14) (D.1 14 * D.1 15) (fun j => ff (B + j)) (fun j => fb (B + j)) (pH0 (D.1 14) (D.1 15) D.2.1 (fun j => ff (B + j)) (fun j => fb (B + j))) (nI 3))) ∧ K' = [(mo, .inr (11, fMo e g w)), ((e 14), .inl (0, 800, .inl nw)), (p, .inl (0, N, .inl ff)), (q, .inl (0, N, .inl fb))]) := by
  refine zSp.of (by decide) (Nat.le_of_ble_eq_true rfl) (fun h0 => ?_)
  show zS _ 0 0 0 [(0, .ref mo), (1, .int (nI 3)), (2, .ref p), (3, .ref q), (4, .int (nI B))] [] [(mo, .inr (11, fMo e g w)), ((e 14), .inl (0, 800, .inl nw)), (p, .inl (0, N, .inl ff)), (q, .inl (0, N, .inl fb))]
  refine zs_iload_n dX13_aimed_0 rfl ?_
  refine zs_if_ne (tgt := 6) dX13_aimed_1 (by decide) (fun c_1 => ?_) (fun c_1 => (by first | exact absurd c_1 (by decide) | exact absurd (by decide) c_1 : False).elim)
  refine zs_iload_n dX13_aimed_6 rfl ?_
  refine zs_bipush (v := nI 100) dX13_aimed_7 (by decide) ?_
  refine zs_icmp_lt (tgt := 33) dX13_aimed_9 (by decide) (fun c_2 => ?_) (fun c_2 => (by first | exact absurd c_2 (by decide) | exact absurd (by decide) c_2 : False).elim)
  refine zs_iconst (v := (-1)) dX13_aimed_33 (by decide) ?_
  refine zs_istore (lv' := [(5, .int (-1)), (0, .ref mo), (1, .int (nI 3)), (2, .ref p), (3, .ref q), (4, .int (nI B))]) dX13_aimed_34 (Nat.le_of_ble_eq_true rfl) rfl ?_
  refine zs_iload_n dX13_aimed_36 rfl ?_
  refine zs_iconst (v := nI 3) dX13_aimed_37 (by decide) ?_
  refine zs_icmp_ne (tgt := 101) dX13_aimed_38 (by decide) (fun c_3 => (by first | exact absurd c_3 (by decide) | exact absurd (by decide) c_3 : False).elim) (fun c_3 => ?_)
  refine zs_iconst (v := nI 0) dX13_aimed_41 (by decide) ?_
  refine zs_istore (lv' := [(6, .int (nI 0)), (5, .int (-1)), (0, .ref mo), (1, .int (nI 3)), (2, .ref p), (3, .ref q), (4, .int (nI B))]) dX13_aimed_42 (Nat.le_of_ble_eq_true rfl) rfl ?_
  refine zs_iconst (v := nI 0) dX13_aimed_44 (by decide) ?_
  refine zs_istore (lv' := [(7, .int (nI 0)), (6, .int (nI 0)), (5, .int (-1)), (0, .ref mo), (1, .int (nI 3)), (2, .ref p), (3, .ref q), (4, .int (nI B))]) dX13_aimed_45 (Nat.le_of_ble_eq_true rfl) rfl ?_
  refine zs_lv [3, 4, 5, 6, 7, 2, 1, 0] rfl ?_
  refine lp_mhot mo e g w nw D p q N B ff fb hd hR hC hRo hN hN2 hbb ?_ (D.1 14 * D.1 15) 0 (Nat.zero_add _)
  refine zs_iload dX13_aimed_92 rfl ?_
  refine zs_iconst (v := (-1)) dX13_aimed_94 (by decide) ?_
  refine zs_icmp_eq (tgt := 101) dX13_aimed_95 (by decide) (fun c_4 => ?_) (fun c_4 => ?_)
  · have hnone := c_4
    rw [hnone]
    refine zs_iconst (v := nI 0) dX13_aimed_101 (by decide) ?_
    refine zs_istore (lv' := [(6, .int (nI 0)), (0, .ref mo), (1, .int (nI 3)), (2, .ref p), (3, .ref q), (4, .int (nI B)), (5, .int (-1))]) dX13_aimed_102 (Nat.le_of_ble_eq_true rfl) rfl ?_
    refine zs_lv [1, 2, 3, 4, 5, 6, 0] rfl ?_
    refine lp_maim3 mo e g w nw D p q N B ff fb hd hR hC hRo hN hN2 hbb ?_ (D.1 14 * D.1 15) 0 (Nat.zero_add _)
    refine zs_iload dX13_aimed_184 rfl ?_
    exact zs_iret dX13_aimed_186 rfl ⟨congrArg (fun v => some (Value.int v)) (by symm; unfold pAim; rw [if_pos (by decide), if_pos (by decide), if_pos hnone]), rfl⟩
  · have hsome := c_4
    refine zs_iload dX13_aimed_98 rfl ?_
    exact zs_iret dX13_aimed_100 rfl ⟨congrArg (fun v => some (Value.int v)) (by symm; unfold pAim; rw [if_pos (by decide), if_pos (by decide), if_neg hsome]), rfl⟩
set_option maxRecDepth 100000 in
theorem s_mAimC (l : Launch) (dd : Nat) (mo : Nat) (e : Nat → Nat) (g : Nat → Int32) (w : Int64) (nw : Nat → Int32) (D : zYd) (p q N B : Nat) (ff fb : Nat → Int32) (x : Int32) (hd : 3 ≤ dd) (hR : yR D nw) (hC : D.1 14 ≤ 8) (hRo : D.1 15 ≤ 8) (hN : B + 64 ≤ N) (hN2 : N < 2147483648) (hbb : fBk (D.1 14 * D.1 15) (fun j => ff (B + j)) (fun j => fb (B + j))) (ha : nI 100 ≤ x) : zSp l mX13_aimed dd 0 0 [.ref mo, .int x, .ref p, .ref q, .int (nI B)] [(mo, .inr (11, fMo e g w)), ((e 14), .inl (0, 800, .inl nw)), (p, .inl (0, N, .inl ff)), (q, .inl (0, N, .inl fb))] (fun r K' => r = some (.int (pAim (D.1 14) (D.1 14 * D.1 15) (fun j => ff (B + j)) (fun j => fb (B + j)) (pH0 (D.1 14) (D.1 15) D.2.1 (fun j => ff (B + j)) (fun j => fb (B + j))) x)) ∧ K' = [(mo, .inr (11, fMo e g w)), ((e 14), .inl (0, 800, .inl nw)), (p, .inl (0, N, .inl ff)), (q, .inl (0, N, .inl fb))]) := by
  refine zSp.of (by decide) (Nat.le_of_ble_eq_true rfl) (fun h0 => ?_)
  show zS _ 0 0 0 [(0, .ref mo), (1, .int x), (2, .ref p), (3, .ref q), (4, .int (nI B))] [] [(mo, .inr (11, fMo e g w)), ((e 14), .inl (0, 800, .inl nw)), (p, .inl (0, N, .inl ff)), (q, .inl (0, N, .inl fb))]
  refine zs_iload_n dX13_aimed_0 rfl ?_
  refine zs_if_ne (tgt := 6) dX13_aimed_1 (by decide) (fun c_1 => ?_) (fun c_1 => (by subst c_1; exact absurd ha (by decide) : False).elim)
  refine zs_iload_n dX13_aimed_6 rfl ?_
  refine zs_bipush (v := nI 100) dX13_aimed_7 (by decide) ?_
  refine zs_icmp_lt (tgt := 33) dX13_aimed_9 (by decide) (fun c_2 => (absurd c_2 (Int32.not_lt.mpr ha) : False).elim) (fun c_2 => ?_)
  refine zs_aload_n dX13_aimed_12 rfl rfl ?_
  refine zs_callV (M := mX13_columns) (As := []) (st := []) (Kc := [(mo, .inr (11, fMo e g w)), ((e 14), .inl (0, 800, .inl nw))]) (Kr := [(p, .inl (0, N, .inl ff)), (q, .inl (0, N, .inl fb))]) [0, 1] [2, 3] 0 dX13_aimed_13 zl_RX13_298 kX13_columns rfl rfl rfl rfl rfl (by decide) rfl rfl (show dd - 1 + 1 ≤ dd by omega) (Nat.zero_le _) (Nat.zero_le _) (Nat.le_of_ble_eq_true rfl) (s_mCols l (dd - 1) mo e g w nw D hR) (fun r K1 hr => ?_)
  obtain ⟨rfl, rfl⟩ := hr
  refine zs_K (K' := [(mo, .inr (11, fMo e g w)), ((e 14), .inl (0, 800, .inl nw)), (p, .inl (0, N, .inl ff)), (q, .inl (0, N, .inl fb))]) [2, 3, 0, 1] rfl (by decide) ?_
  refine zs_iload_n dX13_aimed_16 rfl ?_
  refine zs_bipush (v := nI 100) dX13_aimed_17 (by decide) ?_
  refine zs_isub dX13_aimed_19 ?_
  refine zs_bipush (v := nI 10) dX13_aimed_20 (by decide) ?_
  refine zs_idiv dX13_aimed_22 (by decide) ?_
  refine zs_imul dX13_aimed_23 ?_
  refine zs_iload_n dX13_aimed_24 rfl ?_
  refine zs_bipush (v := nI 100) dX13_aimed_25 (by decide) ?_
  refine zs_isub dX13_aimed_27 ?_
  refine zs_bipush (v := nI 10) dX13_aimed_28 (by decide) ?_
  refine zs_irem dX13_aimed_30 (by decide) ?_
  refine zs_iadd dX13_aimed_31 ?_
  exact zs_iret dX13_aimed_32 rfl ⟨congrArg (fun v => some (Value.int v)) (by symm; unfold pAim; rw [if_neg (show ¬ x < 100 from Int32.not_lt.mpr ha), Int32.mul_comm _ (nI (D.1 14))]; rfl), rfl⟩
theorem s_mAimed (l : Launch) (dd : Nat) (mo : Nat) (e : Nat → Nat) (g : Nat → Int32) (w : Int64) (nw : Nat → Int32) (D : zYd) (p q N B : Nat) (ff fb : Nat → Int32) (x : Int32) (hd : 3 ≤ dd) (hR : yR D nw) (hC : D.1 14 ≤ 8) (hRo : D.1 15 ≤ 8) (hN : B + 64 ≤ N) (hN2 : N < 2147483648) (hbb : fBk (D.1 14 * D.1 15) (fun j => ff (B + j)) (fun j => fb (B + j))) (hx : x = nI 0 ∨ x = nI 1 ∨ x = nI 2 ∨ x = nI 3 ∨ nI 100 ≤ x) : zSp l mX13_aimed dd 0 0 [.ref mo, .int x, .ref p, .ref q, .int (nI B)] [(mo, .inr (11, fMo e g w)), ((e 14), .inl (0, 800, .inl nw)), (p, .inl (0, N, .inl ff)), (q, .inl (0, N, .inl fb))] (fun r K' => r = some (.int (pAim (D.1 14) (D.1 14 * D.1 15) (fun j => ff (B + j)) (fun j => fb (B + j)) (pH0 (D.1 14) (D.1 15) D.2.1 (fun j => ff (B + j)) (fun j => fb (B + j))) x)) ∧ K' = [(mo, .inr (11, fMo e g w)), ((e 14), .inl (0, 800, .inl nw)), (p, .inl (0, N, .inl ff)), (q, .inl (0, N, .inl fb))]) := by
  rcases hx with h | h | h | h | h
  · subst h; exact s_mAim0 l dd mo e g w nw D p q N B ff fb hd hR hC hRo hN hN2 hbb
  · subst h; exact s_mAim1 l dd mo e g w nw D p q N B ff fb hd hR hC hRo hN hN2 hbb
  · subst h; exact s_mAim2 l dd mo e g w nw D p q N B ff fb hd hR hC hRo hN hN2 hbb
  · subst h; exact s_mAim3 l dd mo e g w nw D p q N B ff fb hd hR hC hRo hN hN2 hbb
  · exact s_mAimC l dd mo e g w nw D p q N B ff fb x hd hR hC hRo hN hN2 hbb h
