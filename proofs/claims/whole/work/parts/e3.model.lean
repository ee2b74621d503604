/-! ===== the reference: a minute ===== -/
theorem dX13_minute_0 : decode cX13_minute 0 = .ok (.iload_n 1, 1) := by decide +kernel
theorem dX13_minute_1 : decode cX13_minute 1 = .ok (.iconst (-1), 1) := by decide +kernel
theorem dX13_minute_2 : decode cX13_minute 2 = .ok (.if_icmp .eq 48, 3) := by decide +kernel
theorem dX13_minute_5 : decode cX13_minute 5 = .ok (.aload_n 0, 1) := by decide +kernel
theorem dX13_minute_6 : decode cX13_minute 6 = .ok (.getfield 111, 3) := by decide +kernel
theorem dX13_minute_9 : decode cX13_minute 9 = .ok (.iload_n 1, 1) := by decide +kernel
theorem dX13_minute_10 : decode cX13_minute 10 = .ok (.dup2, 1) := by decide +kernel
theorem dX13_minute_11 : decode cX13_minute 11 = .ok (.iaload, 1) := by decide +kernel
theorem dX13_minute_12 : decode cX13_minute 12 = .ok (.iload_n 2, 1) := by decide +kernel
theorem dX13_minute_13 : decode cX13_minute 13 = .ok (.iadd, 1) := by decide +kernel
theorem dX13_minute_14 : decode cX13_minute 14 = .ok (.iastore, 1) := by decide +kernel
theorem dX13_minute_15 : decode cX13_minute 15 = .ok (.aload_n 0, 1) := by decide +kernel
theorem dX13_minute_16 : decode cX13_minute 16 = .ok (.getfield 108, 3) := by decide +kernel
theorem dX13_minute_19 : decode cX13_minute 19 = .ok (.iload_n 1, 1) := by decide +kernel
theorem dX13_minute_20 : decode cX13_minute 20 = .ok (.iaload, 1) := by decide +kernel
theorem dX13_minute_21 : decode cX13_minute 21 = .ok (.iconst 1, 1) := by decide +kernel
theorem dX13_minute_22 : decode cX13_minute 22 = .ok (.if_icmp .ne 28, 3) := by decide +kernel
theorem dX13_minute_25 : decode cX13_minute 25 = .ok (.aload_n 0, 1) := by decide +kernel
theorem dX13_minute_26 : decode cX13_minute 26 = .ok (.getfield 111, 3) := by decide +kernel
theorem dX13_minute_29 : decode cX13_minute 29 = .ok (.iload_n 1, 1) := by decide +kernel
theorem dX13_minute_30 : decode cX13_minute 30 = .ok (.iaload, 1) := by decide +kernel
theorem dX13_minute_31 : decode cX13_minute 31 = .ok (.bipush 10, 2) := by decide +kernel
theorem dX13_minute_33 : decode cX13_minute 33 = .ok (.aload_n 0, 1) := by decide +kernel
theorem dX13_minute_34 : decode cX13_minute 34 = .ok (.getfield 105, 3) := by decide +kernel
theorem dX13_minute_37 : decode cX13_minute 37 = .ok (.iload_n 1, 1) := by decide +kernel
theorem dX13_minute_38 : decode cX13_minute 38 = .ok (.iaload, 1) := by decide +kernel
theorem dX13_minute_39 : decode cX13_minute 39 = .ok (.imul, 1) := by decide +kernel
theorem dX13_minute_40 : decode cX13_minute 40 = .ok (.if_icmp .lt 10, 3) := by decide +kernel
theorem dX13_minute_43 : decode cX13_minute 43 = .ok (.aload_n 0, 1) := by decide +kernel
theorem dX13_minute_44 : decode cX13_minute 44 = .ok (.getfield 108, 3) := by decide +kernel
theorem dX13_minute_47 : decode cX13_minute 47 = .ok (.iload_n 1, 1) := by decide +kernel
theorem dX13_minute_48 : decode cX13_minute 48 = .ok (.iconst 0, 1) := by decide +kernel
theorem dX13_minute_49 : decode cX13_minute 49 = .ok (.iastore, 1) := by decide +kernel
theorem dX13_minute_50 : decode cX13_minute 50 = .ok (.iconst 0, 1) := by decide +kernel
theorem dX13_minute_51 : decode cX13_minute 51 = .ok (.istore_n 3, 1) := by decide +kernel
theorem dX13_minute_52 : decode cX13_minute 52 = .ok (.iload_n 3, 1) := by decide +kernel
theorem dX13_minute_53 : decode cX13_minute 53 = .ok (.aload_n 0, 1) := by decide +kernel
theorem dX13_minute_54 : decode cX13_minute 54 = .ok (.invokevirtual 426, 3) := by decide +kernel
theorem dX13_minute_57 : decode cX13_minute 57 = .ok (.if_icmp .ge 29, 3) := by decide +kernel
theorem dX13_minute_60 : decode cX13_minute 60 = .ok (.aload_n 0, 1) := by decide +kernel
theorem dX13_minute_61 : decode cX13_minute 61 = .ok (.getfield 114, 3) := by decide +kernel
theorem dX13_minute_64 : decode cX13_minute 64 = .ok (.iload_n 3, 1) := by decide +kernel
theorem dX13_minute_65 : decode cX13_minute 65 = .ok (.aload_n 0, 1) := by decide +kernel
theorem dX13_minute_66 : decode cX13_minute 66 = .ok (.iload_n 3, 1) := by decide +kernel
theorem dX13_minute_67 : decode cX13_minute 67 = .ok (.aload_n 0, 1) := by decide +kernel
theorem dX13_minute_68 : decode cX13_minute 68 = .ok (.getfield 105, 3) := by decide +kernel
theorem dX13_minute_71 : decode cX13_minute 71 = .ok (.aload_n 0, 1) := by decide +kernel
theorem dX13_minute_72 : decode cX13_minute 72 = .ok (.getfield 108, 3) := by decide +kernel
theorem dX13_minute_75 : decode cX13_minute 75 = .ok (.iconst 0, 1) := by decide +kernel
theorem dX13_minute_76 : decode cX13_minute 76 = .ok (.invokevirtual 432, 3) := by decide +kernel
theorem dX13_minute_79 : decode cX13_minute 79 = .ok (.iastore, 1) := by decide +kernel
theorem dX13_minute_80 : decode cX13_minute 80 = .ok (.iinc 3 1, 3) := by decide +kernel
theorem dX13_minute_83 : decode cX13_minute 83 = .ok (.goto (-31), 3) := by decide +kernel
theorem dX13_minute_86 : decode cX13_minute 86 = .ok (.iconst 0, 1) := by decide +kernel
theorem dX13_minute_87 : decode cX13_minute 87 = .ok (.istore_n 3, 1) := by decide +kernel
theorem dX13_minute_88 : decode cX13_minute 88 = .ok (.iload_n 3, 1) := by decide +kernel
theorem dX13_minute_89 : decode cX13_minute 89 = .ok (.aload_n 0, 1) := by decide +kernel
theorem dX13_minute_90 : decode cX13_minute 90 = .ok (.invokevirtual 426, 3) := by decide +kernel
theorem dX13_minute_93 : decode cX13_minute 93 = .ok (.if_icmp .ge 57, 3) := by decide +kernel
theorem dX13_minute_96 : decode cX13_minute 96 = .ok (.aload_n 0, 1) := by decide +kernel
theorem dX13_minute_97 : decode cX13_minute 97 = .ok (.getfield 108, 3) := by decide +kernel
theorem dX13_minute_100 : decode cX13_minute 100 = .ok (.iload_n 3, 1) := by decide +kernel
theorem dX13_minute_101 : decode cX13_minute 101 = .ok (.iaload, 1) := by decide +kernel
theorem dX13_minute_102 : decode cX13_minute 102 = .ok (.ifCond .ne 6, 3) := by decide +kernel
theorem dX13_minute_105 : decode cX13_minute 105 = .ok (.goto 39, 3) := by decide +kernel
theorem dX13_minute_108 : decode cX13_minute 108 = .ok (.aload_n 0, 1) := by decide +kernel
theorem dX13_minute_109 : decode cX13_minute 109 = .ok (.getfield 105, 3) := by decide +kernel
theorem dX13_minute_112 : decode cX13_minute 112 = .ok (.iload_n 3, 1) := by decide +kernel
theorem dX13_minute_113 : decode cX13_minute 113 = .ok (.dup2, 1) := by decide +kernel
theorem dX13_minute_114 : decode cX13_minute 114 = .ok (.iaload, 1) := by decide +kernel
theorem dX13_minute_115 : decode cX13_minute 115 = .ok (.iconst 1, 1) := by decide +kernel
theorem dX13_minute_116 : decode cX13_minute 116 = .ok (.isub, 1) := by decide +kernel
theorem dX13_minute_117 : decode cX13_minute 117 = .ok (.iastore, 1) := by decide +kernel
theorem dX13_minute_118 : decode cX13_minute 118 = .ok (.aload_n 0, 1) := by decide +kernel
theorem dX13_minute_119 : decode cX13_minute 119 = .ok (.dup, 1) := by decide +kernel
theorem dX13_minute_120 : decode cX13_minute 120 = .ok (.getfield 423, 3) := by decide +kernel
theorem dX13_minute_123 : decode cX13_minute 123 = .ok (.iconst 1, 1) := by decide +kernel
theorem dX13_minute_124 : decode cX13_minute 124 = .ok (.iadd, 1) := by decide +kernel
theorem dX13_minute_125 : decode cX13_minute 125 = .ok (.putfield 423, 3) := by decide +kernel
theorem dX13_minute_128 : decode cX13_minute 128 = .ok (.aload_n 0, 1) := by decide +kernel
theorem dX13_minute_129 : decode cX13_minute 129 = .ok (.getfield 105, 3) := by decide +kernel
theorem dX13_minute_132 : decode cX13_minute 132 = .ok (.iload_n 3, 1) := by decide +kernel
theorem dX13_minute_133 : decode cX13_minute 133 = .ok (.iaload, 1) := by decide +kernel
theorem dX13_minute_134 : decode cX13_minute 134 = .ok (.ifCond .ne 10, 3) := by decide +kernel
theorem dX13_minute_137 : decode cX13_minute 137 = .ok (.aload_n 0, 1) := by decide +kernel
theorem dX13_minute_138 : decode cX13_minute 138 = .ok (.getfield 108, 3) := by decide +kernel
theorem dX13_minute_141 : decode cX13_minute 141 = .ok (.iload_n 3, 1) := by decide +kernel
theorem dX13_minute_142 : decode cX13_minute 142 = .ok (.iconst 0, 1) := by decide +kernel
theorem dX13_minute_143 : decode cX13_minute 143 = .ok (.iastore, 1) := by decide +kernel
theorem dX13_minute_144 : decode cX13_minute 144 = .ok (.iinc 3 1, 3) := by decide +kernel
theorem dX13_minute_147 : decode cX13_minute 147 = .ok (.goto (-59), 3) := by decide +kernel
theorem dX13_minute_150 : decode cX13_minute 150 = .ok (.iconst 0, 1) := by decide +kernel
theorem dX13_minute_151 : decode cX13_minute 151 = .ok (.istore_n 3, 1) := by decide +kernel
theorem dX13_minute_152 : decode cX13_minute 152 = .ok (.iload_n 3, 1) := by decide +kernel
theorem dX13_minute_153 : decode cX13_minute 153 = .ok (.aload_n 0, 1) := by decide +kernel
theorem dX13_minute_154 : decode cX13_minute 154 = .ok (.invokevirtual 426, 3) := by decide +kernel
theorem dX13_minute_157 : decode cX13_minute 157 = .ok (.if_icmp .ge 35, 3) := by decide +kernel
theorem dX13_minute_160 : decode cX13_minute 160 = .ok (.aload_n 0, 1) := by decide +kernel
theorem dX13_minute_161 : decode cX13_minute 161 = .ok (.getfield 114, 3) := by decide +kernel
theorem dX13_minute_164 : decode cX13_minute 164 = .ok (.iload_n 3, 1) := by decide +kernel
theorem dX13_minute_165 : decode cX13_minute 165 = .ok (.iaload, 1) := by decide +kernel
theorem dX13_minute_166 : decode cX13_minute 166 = .ok (.iconst 5, 1) := by decide +kernel
theorem dX13_minute_167 : decode cX13_minute 167 = .ok (.aload_n 0, 1) := by decide +kernel
theorem dX13_minute_168 : decode cX13_minute 168 = .ok (.getfield 111, 3) := by decide +kernel
theorem dX13_minute_171 : decode cX13_minute 171 = .ok (.iload_n 3, 1) := by decide +kernel
theorem dX13_minute_172 : decode cX13_minute 172 = .ok (.iaload, 1) := by decide +kernel
theorem dX13_minute_173 : decode cX13_minute 173 = .ok (.iconst 2, 1) := by decide +kernel
theorem dX13_minute_174 : decode cX13_minute 174 = .ok (.idiv, 1) := by decide +kernel
theorem dX13_minute_175 : decode cX13_minute 175 = .ok (.iadd, 1) := by decide +kernel
theorem dX13_minute_176 : decode cX13_minute 176 = .ok (.if_icmp .lt 10, 3) := by decide +kernel
theorem dX13_minute_179 : decode cX13_minute 179 = .ok (.aload_n 0, 1) := by decide +kernel
theorem dX13_minute_180 : decode cX13_minute 180 = .ok (.getfield 108, 3) := by decide +kernel
theorem dX13_minute_183 : decode cX13_minute 183 = .ok (.iload_n 3, 1) := by decide +kernel
theorem dX13_minute_184 : decode cX13_minute 184 = .ok (.iconst 1, 1) := by decide +kernel
theorem dX13_minute_185 : decode cX13_minute 185 = .ok (.iastore, 1) := by decide +kernel
theorem dX13_minute_186 : decode cX13_minute 186 = .ok (.iinc 3 1, 3) := by decide +kernel
theorem dX13_minute_189 : decode cX13_minute 189 = .ok (.goto (-37), 3) := by decide +kernel
theorem dX13_minute_192 : decode cX13_minute 192 = .ok (.return_, 1) := by decide +kernel
/-- burning behind the wood that went -/
def mX (fu bu : Nat → Int32) : Nat → Int32 := fun j => if bu j = 0 then bu j else if fu j - nI 1 = 0 then nI 0 else bu j
/-- a fire on n cells with no more than V on a cell -/
def fK (n V : Nat) (s : zFs) : Prop := fBk n s.1 s.2.2 ∧ ∀ k, k < n → ∃ x, x ≤ V ∧ s.2.1 k = nI x
theorem pCl_cl (x y z : Nat → Int32) (n : Nat) : pCl x (pCl y z n) n = pCl x z n := by
  funext j
  simp only [pCl]
  by_cases h : j < n
  · rw [if_pos h, if_pos h]
  · rw [if_neg h, if_neg h, if_neg h]
section
variable {n k : Nat} {fu bu he we : Nat → Int32}
theorem w5 {x : Nat} (h : x < 2147483648) : (0 : Int32) < 5 + nI x / 2 := by
  rw [show (2 : Int32) = nI 2 from rfl, show (5 : Int32) = nI 5 from rfl, show (0 : Int32) = nI 0 from rfl, nI_div h (by omega) (by omega), nI_add, nI_lt' (by omega) (by omega)]
  omega
theorem fB_0 {k : Nat} (H : fBk n fu bu) (hk : k < n) (h : ¬ bu k = 1) : bu k = 0 := (H k hk).1.resolve_right h
theorem fB_f {k : Nat} (H : fBk n fu bu) (hk : k < n) : ¬ fu k = 0 ↔ ¬ fu k ≤ 0 := by
  obtain ⟨-, x, hx, hf, -⟩ := H k hk
  rw [hf, show (0 : Int32) = nI 0 from rfl, nI_eq' (by omega) (by omega), nI_le' (by omega) (by omega)]
  omega
theorem nB_1 (H : fBk n fu bu) (hk : k < n) (hw : ∃ x, x < 2147483648 ∧ we k = nI x) (h : ¬ hv fu bu he k < nI 5 + we k / nI 2) : nBu fu bu he we k = nI 1 := by
  obtain ⟨x, hx, hwx⟩ := hw
  have h5 := w5 hx
  rw [← hwx] at h5
  have h : ¬ hv fu bu he k < 5 + we k / 2 := h
  have hp : (0 : Int32) < hv fu bu he k := Int32.lt_of_lt_of_le h5 (Int32.not_lt.mp h)
  have hb0 : bu k = 0 := fB_0 H hk (fun z => by rw [hv, if_pos (show bu k = nI 1 from z)] at hp; exact absurd hp (by decide))
  have hf0 : ¬ fu k = 0 := fun z => by rw [hv, if_neg (by rw [hb0]; decide), if_pos z] at hp; exact absurd hp (by decide)
  have hvk : hv fu bu he k = he k := by rw [hv, if_neg (by rw [hb0]; decide), if_neg hf0]
  rw [hvk] at h
  unfold nBu
  rw [if_pos hb0, if_neg ((fB_f H hk).mp hf0), if_neg h]
  rfl
theorem nB_0 (H : fBk n fu bu) (hk : k < n) (h : hv fu bu he k < nI 5 + we k / nI 2) : nBu fu bu he we k = mX fu bu k := by
  have h : hv fu bu he k < 5 + we k / 2 := h
  rcases (H k hk).1 with hb | hb
  · unfold nBu mX
    rw [if_pos hb, if_pos hb, hb]
    by_cases hf : fu k ≤ 0
    · rw [if_pos hf]
    · rw [if_neg hf]
      have hvk : hv fu bu he k = he k := by rw [hv, if_neg (by rw [hb]; decide), if_neg ((fB_f H hk).mpr hf)]
      rw [hvk] at h
      rw [if_pos h]
  · obtain ⟨-, x, hx, hf, h1⟩ := H k hk
    have h1 := h1 hb
    have hb0 : ¬ bu k = 0 := by rw [hb]; decide
    unfold nBu mX
    rw [if_neg hb0, if_neg hb0, hf, show (1 : Int32) = nI 1 from rfl, nI_sub h1, show (0 : Int32) = nI 0 from rfl]
    by_cases hz : x - 1 = 0
    · rw [hz, if_pos (Int32.le_refl _), if_pos rfl]
    · rw [if_neg (by rw [nI_le' (by omega) (by omega)]; omega), if_neg (by rw [nI_eq' (by omega) (by omega)]; omega), hb]; rfl
end
theorem pWe_k {m k : Nat} {we : Nat → Int32} {v : Int32} (hk : k < m) (hn : m ≤ 64) : pWe m we (nI k) v = upd we k (we k + v) := by
  unfold pWe
  rw [if_neg (by rw [show (0 : Int32) = nI 0 from rfl, nI_lt' (by omega) (by omega)]; omega), if_neg (by rw [nI_le' (by omega) (by omega)]; omega), nI_c (by omega)]
theorem pWe_1 {m : Nat} {we : Nat → Int32} {v : Int32} : pWe m we (-1) v = we := if_pos (by decide)
theorem pBu_1 {m : Nat} {fu we bu : Nat → Int32} : pBu m fu we bu (-1) = bu := if_pos (by decide)
theorem pBu_k {m k : Nat} {fu we bu : Nat → Int32} (hk : k < m) (hn : m ≤ 64) : pBu m fu we bu (nI k) = if bu k = 0 then bu else if we k < 10 * fu k then bu else upd bu k 0 := by
  unfold pBu
  rw [if_neg (by rw [show (0 : Int32) = nI 0 from rfl, nI_lt' (by omega) (by omega)]; omega), if_neg (by rw [nI_le' (by omega) (by omega)]; omega), nI_c (by omega)]
/-- what may be aimed at -/
def aC (m : Nat) (c : Int32) : Prop := c = -1 ∨ ∃ k, k < m ∧ c = nI k
theorem pBu_c {m : Nat} {fu we bu : Nat → Int32} {c : Int32} (hn : m ≤ 64) (hc : aC m c) (j : Nat) : pBu m fu we bu c j = bu j ∨ pBu m fu we bu c j = 0 := by
  rcases hc with rfl | ⟨k, hk, rfl⟩
  · rw [pBu_1]; exact Or.inl rfl
  · rw [pBu_k hk hn]
    by_cases h1 : bu k = 0
    · rw [if_pos h1]; exact Or.inl rfl
    · rw [if_neg h1]
      by_cases h2 : we k < 10 * fu k
      · rw [if_pos h2]; exact Or.inl rfl
      · rw [if_neg h2]
        by_cases hj : j = k
        · exact Or.inr (if_pos hj)
        · exact Or.inl (if_neg hj)
theorem fB_bu {m : Nat} {fu we bu : Nat → Int32} {c : Int32} (H : fBk m fu bu) (hn : m ≤ 64) (hc : aC m c) : fBk m fu (pBu m fu we bu c) := fun j hj => by
  obtain ⟨h1, x, h2, h3, h4⟩ := H j hj
  rcases pBu_c (fu := fu) (we := we) (bu := bu) hn hc j with h | h
  · rw [h]; exact ⟨h1, x, h2, h3, h4⟩
  · rw [h]; exact ⟨Or.inl rfl, x, h2, h3, fun z => absurd z (by decide)⟩
theorem pWe_b {m V u : Nat} {we : Nat → Int32} {c : Int32} (H : ∀ k, k < m → ∃ x, x ≤ V ∧ we k = nI x) (hn : m ≤ 64) (hc : aC m c) : ∀ k, k < m → ∃ x, x ≤ V + u ∧ pWe m we c (nI u) k = nI x := by
  intro j hj
  obtain ⟨x, hx, hw⟩ := H j hj
  rcases hc with rfl | ⟨k, hk, rfl⟩
  · rw [pWe_1]; exact ⟨x, by omega, hw⟩
  · rw [pWe_k hk hn]
    by_cases hjk : j = k
    · subst hjk
      exact ⟨x + u, by omega, by rw [upd_s, hw, nI_add]⟩
    · exact ⟨x, by omega, by rw [show upd we k (we k + nI u) j = we j from if_neg hjk]; exact hw⟩
theorem fK_min {C R V u : Nat} {wi : Int32} {s : zFs} {c : Int32} (H : fK (C * R) V s) (hn : C * R ≤ 64) (hc : aC (C * R) c) : fK (C * R) (V + u) (mMin C R wi s c (nI u)) := by
  refine ⟨?_, pWe_b H.2 hn hc⟩
  have HB := fB_bu (we := mW C R s c (nI u)) H.1 hn hc
  intro k hk
  obtain ⟨h1, x, hx, hf, h4⟩ := HB k hk
  show (pCl (mN C R wi s c (nI u)) (mB C R s c (nI u)) (C * R) k = 0 ∨ pCl (mN C R wi s c (nI u)) (mB C R s c (nI u)) (C * R) k = 1) ∧ ∃ x, x ≤ 9 ∧ pCl (nFu s.1 (mB C R s c (nI u))) s.1 (C * R) k = nI x ∧ (pCl (mN C R wi s c (nI u)) (mB C R s c (nI u)) (C * R) k = 1 → 1 ≤ x)
  rw [show pCl (mN C R wi s c (nI u)) (mB C R s c (nI u)) (C * R) k = mN C R wi s c (nI u) k from if_pos hk, show pCl (nFu s.1 (mB C R s c (nI u))) s.1 (C * R) k = nFu s.1 (mB C R s c (nI u)) k from if_pos hk]
  have hB : mB C R s c (nI u) k = pBu (C * R) s.1 (mW C R s c (nI u)) s.2.2 c k := rfl
  unfold mN nBu nFu
  rw [← hB] at h1 h4
  rcases h1 with h1 | h1
  · rw [if_pos h1, if_pos h1]
    by_cases hf0 : s.1 k ≤ 0
    · rw [if_pos hf0]; exact ⟨Or.inl rfl, x, hx, hf, fun z => absurd z (by decide)⟩
    · rw [if_neg hf0]
      refine ⟨by split; exact Or.inl rfl; exact Or.inr rfl, x, hx, hf, fun _ => ?_⟩
      rw [hf, show (0 : Int32) = nI 0 from rfl, nI_le' (by omega) (by omega)] at hf0
      omega
  · have hb0 : ¬ mB C R s c (nI u) k = 0 := by rw [h1]; decide
    have h4 := h4 h1
    rw [if_neg hb0, if_neg hb0, hf, show (1 : Int32) = nI 1 from rfl, nI_sub h4, show (0 : Int32) = nI 0 from rfl]
    by_cases hz : x - 1 = 0
    · rw [hz, if_pos (Int32.le_refl _)]; exact ⟨Or.inl rfl, 0, by omega, rfl, fun z => absurd z (by decide)⟩
    · rw [if_neg (by rw [nI_le' (by omega) (by omega)]; omega)]; exact ⟨Or.inr rfl, x - 1, by omega, rfl, fun _ => by omega⟩
theorem s_mHeatF (l : Launch) (dd : Nat) (mo : Nat) (e : Nat → Nat) (g : Nat → Int32) (w : Int64) (nw : Nat → Int32) (D : zYd) (fu bu : Nat → Int32) (k : Nat) (hd : 2 ≤ dd) (hR : yR D nw) (hC : D.1 14 ≤ 8) (hRo : D.1 15 ≤ 8) (hk : k < D.1 14 * D.1 15) : zSp l mX13_heatOf dd 0 0 [.ref mo, .int (nI k), .ref (e 64), .ref (e 65), .int (nI 0)] [(mo, .inr (11, fMo e g w)), ((e 14), .inl (0, 800, .inl nw)), ((e 64), .inl (0, 64, .inl fu)), ((e 65), .inl (0, 64, .inl bu))] (fun r K' => r = some (.int (hK (D.1 14) (D.1 15) D.2.1 fu bu k)) ∧ K' = [(mo, .inr (11, fMo e g w)), ((e 14), .inl (0, 800, .inl nw)), ((e 64), .inl (0, 64, .inl fu)), ((e 65), .inl (0, 64, .inl bu))]) := by
  have h := s_mHeatK l dd mo e g w nw D (e 64) (e 65) 64 0 fu bu k hd hR hC hRo (by omega) (by omega) hk
  simp only [Nat.zero_add] at h
  exact h
set_option maxRecDepth 100000 in
theorem lp_mmi1 {l : Launch} {dd : Nat} {Po : zPo} {K0 : zK} {h0 : List va_E} {Xo : zK → Prop} {Gc : zG → Prop} (mo : Nat) (e : Nat → Nat) (g : Nat → Int32) (w : Int64) (nw : Nat → Int32) (D : zYd) (fu we bu he : Nat → Int32) (hd : 3 ≤ dd) (hR : yR D nw) (hC : D.1 14 ≤ 8) (hRo : D.1 15 ≤ 8) (hfb : fBk (D.1 14 * D.1 15) fu bu) (hwb : ∀ k, k < (D.1 14 * D.1 15) → ∃ x, x < 2147483648 ∧ we k = nI x)
    (hk : zS (l, mX13_minute, dd, Po, K0, h0, Xo, Gc) 0 0 86 [(0, .ref mo)] [] [(mo, .inr (11, fMo e g w)), ((e 14), .inl (0, 800, .inl nw)), ((e 64), .inl (0, 64, .inl fu)), ((e 65), .inl (0, 64, .inl bu)), ((e 66), .inl (0, 64, .inl we)), ((e 67), .inl (0, 64, .inl (pCl (hK (D.1 14) (D.1 15) D.2.1 fu bu) he (D.1 14 * D.1 15))))]) :
    ∀ (m i : Nat) , i + m = (D.1 14 * D.1 15) → zS (l, mX13_minute, dd, Po, K0, h0, Xo, Gc) 0 0 52 [(0, .ref mo), (3, .int (nI i))] [] [(mo, .inr (11, fMo e g w)), ((e 14), .inl (0, 800, .inl nw)), ((e 64), .inl (0, 64, .inl fu)), ((e 65), .inl (0, 64, .inl bu)), ((e 66), .inl (0, 64, .inl we)), ((e 67), .inl (0, 64, .inl (pCl (hK (D.1 14) (D.1 15) D.2.1 fu bu) he i)))] := by
  intro m
  induction m with
  | zero =>
    intro i hi
    have h64 : D.1 14 * D.1 15 ≤ 64 := Nat.mul_le_mul hC hRo
    refine zs_iload_n dX13_minute_52 rfl ?_
    refine zs_aload_n dX13_minute_53 rfl rfl ?_
    refine zs_callV (M := mX13_cells) (As := []) (st := [.int (nI i)]) (Kc := [(mo, .inr (11, fMo e g w)), ((e 14), .inl (0, 800, .inl nw))]) (Kr := [((e 64), .inl (0, 64, .inl fu)), ((e 65), .inl (0, 64, .inl bu)), ((e 66), .inl (0, 64, .inl we)), ((e 67), .inl (0, 64, .inl (pCl (hK (D.1 14) (D.1 15) D.2.1 fu bu) he i)))]) [0, 1] [2, 3, 4, 5] 0 dX13_minute_54 zl_RX13_426 kX13_cells rfl rfl rfl rfl rfl (by decide) rfl rfl (show dd - 1 + 1 ≤ dd by omega) (Nat.zero_le _) (Nat.zero_le _) (Nat.le_of_ble_eq_true rfl) (s_mCells l (dd - 1) mo e g w nw D hR) (fun r K1 hr => ?_)
    obtain ⟨rfl, rfl⟩ := hr
    refine zs_K (K' := [(mo, .inr (11, fMo e g w)), ((e 14), .inl (0, 800, .inl nw)), ((e 64), .inl (0, 64, .inl fu)), ((e 65), .inl (0, 64, .inl bu)), ((e 66), .inl (0, 64, .inl we)), ((e 67), .inl (0, 64, .inl (pCl (hK (D.1 14) (D.1 15) D.2.1 fu bu) he i)))]) [4, 5, 0, 1, 2, 3] rfl (by decide) ?_
    refine zs_icmp_ge (tgt := 86) dX13_minute_57 (by decide) (fun c_1 => ?_) (fun c_1 => (c_1 (by rw [show i = (D.1 14 * D.1 15) by omega]; exact Int32.le_refl _) : False).elim)
    rw [show i = (D.1 14 * D.1 15) by omega]
    refine zs_lv [0] rfl ?_
    exact hk
  | succ m ih =>
    intro i hi
    have h64 : D.1 14 * D.1 15 ≤ 64 := Nat.mul_le_mul hC hRo
    refine zs_iload_n dX13_minute_52 rfl ?_
    refine zs_aload_n dX13_minute_53 rfl rfl ?_
    refine zs_callV (M := mX13_cells) (As := []) (st := [.int (nI i)]) (Kc := [(mo, .inr (11, fMo e g w)), ((e 14), .inl (0, 800, .inl nw))]) (Kr := [((e 64), .inl (0, 64, .inl fu)), ((e 65), .inl (0, 64, .inl bu)), ((e 66), .inl (0, 64, .inl we)), ((e 67), .inl (0, 64, .inl (pCl (hK (D.1 14) (D.1 15) D.2.1 fu bu) he i)))]) [0, 1] [2, 3, 4, 5] 0 dX13_minute_54 zl_RX13_426 kX13_cells rfl rfl rfl rfl rfl (by decide) rfl rfl (show dd - 1 + 1 ≤ dd by omega) (Nat.zero_le _) (Nat.zero_le _) (Nat.le_of_ble_eq_true rfl) (s_mCells l (dd - 1) mo e g w nw D hR) (fun r K1 hr => ?_)
    obtain ⟨rfl, rfl⟩ := hr
    refine zs_K (K' := [(mo, .inr (11, fMo e g w)), ((e 14), .inl (0, 800, .inl nw)), ((e 64), .inl (0, 64, .inl fu)), ((e 65), .inl (0, 64, .inl bu)), ((e 66), .inl (0, 64, .inl we)), ((e 67), .inl (0, 64, .inl (pCl (hK (D.1 14) (D.1 15) D.2.1 fu bu) he i)))]) [4, 5, 0, 1, 2, 3] rfl (by decide) ?_
    refine zs_icmp_ge (tgt := 86) dX13_minute_57 (by decide) (fun c_1 => (nI_ge (show i < (D.1 14 * D.1 15) by omega) (by omega) c_1 : False).elim) (fun c_1 => ?_)
    refine zs_aload_n dX13_minute_60 rfl rfl ?_
    refine zs_get 0 dX13_minute_61 zf_RX13_114 rfl (v := .ref (e 67)) rfl ?_
    refine zs_iload_n dX13_minute_64 rfl ?_
    refine zs_aload_n dX13_minute_65 rfl rfl ?_
    refine zs_iload_n dX13_minute_66 rfl ?_
    refine zs_aload_n dX13_minute_67 rfl rfl ?_
    refine zs_get 0 dX13_minute_68 zf_RX13_105 rfl (v := .ref (e 64)) rfl ?_
    refine zs_aload_n dX13_minute_71 rfl rfl ?_
    refine zs_get 0 dX13_minute_72 zf_RX13_108 rfl (v := .ref (e 65)) rfl ?_
    refine zs_iconst (v := nI 0) dX13_minute_75 (by decide) ?_
    refine zs_callV (M := mX13_heatOf) (As := [.int (nI i), .ref (e 64), .ref (e 65), .int (nI 0)]) (st := [.int (nI i), .ref (e 67)]) (Kc := [(mo, .inr (11, fMo e g w)), ((e 14), .inl (0, 800, .inl nw)), ((e 64), .inl (0, 64, .inl fu)), ((e 65), .inl (0, 64, .inl bu))]) (Kr := [((e 66), .inl (0, 64, .inl we)), ((e 67), .inl (0, 64, .inl (pCl (hK (D.1 14) (D.1 15) D.2.1 fu bu) he i)))]) [0, 1, 2, 3] [4, 5] 0 dX13_minute_76 zl_RX13_432 kX13_heatOf rfl rfl rfl rfl rfl (by decide) rfl rfl (show dd - 1 + 1 ≤ dd by omega) (Nat.zero_le _) (Nat.zero_le _) (Nat.le_of_ble_eq_true rfl) (s_mHeatF l (dd - 1) mo e g w nw D fu bu i (by omega) hR hC hRo (by omega)) (fun r K1 hr => ?_)
    obtain ⟨rfl, rfl⟩ := hr
    refine zs_K (K' := [(mo, .inr (11, fMo e g w)), ((e 14), .inl (0, 800, .inl nw)), ((e 64), .inl (0, 64, .inl fu)), ((e 65), .inl (0, 64, .inl bu)), ((e 66), .inl (0, 64, .inl we)), ((e 67), .inl (0, 64, .inl (pCl (hK (D.1 14) (D.1 15) D.2.1 fu bu) he i)))]) [2, 3, 4, 5, 0, 1] rfl (by decide) ?_
    refine zs_iast 5 dX13_minute_79 rfl (vp_in_nI (by omega) (by omega)) ?_
    rw [nI_c (n := i) (by omega)]
    rw [show (upd (pCl (hK (D.1 14) (D.1 15) D.2.1 fu bu) he i) i (hK (D.1 14) (D.1 15) D.2.1 fu bu i)) = pCl (hK (D.1 14) (D.1 15) D.2.1 fu bu) he (i + 1) from pCl_s _ _ _]
    show zS _ _ _ _ _ _ [(mo, .inr (11, fMo e g w)), ((e 14), .inl (0, 800, .inl nw)), ((e 64), .inl (0, 64, .inl fu)), ((e 65), .inl (0, 64, .inl bu)), ((e 66), .inl (0, 64, .inl we)), ((e 67), .inl (0, 64, .inl (pCl (hK (D.1 14) (D.1 15) D.2.1 fu bu) he (i + 1))))]
    refine zs_iinc (v := (nI (i + 1))) (lv' := [(3, .int (nI (i + 1))), (0, .ref mo)]) dX13_minute_80 rfl (nI_add _ 1) (Nat.le_of_ble_eq_true rfl) rfl ?_
    refine zs_goto (tgt := 52) dX13_minute_83 (by decide) ?_
    refine zs_lv [1, 0] rfl ?_
    exact ih (i + 1) (by omega)
set_option maxRecDepth 100000 in
theorem lp_mmi2 {l : Launch} {dd : Nat} {Po : zPo} {K0 : zK} {h0 : List va_E} {Xo : zK → Prop} {Gc : zG → Prop} (mo : Nat) (e : Nat → Nat) (g : Nat → Int32) (w : Int64) (nw : Nat → Int32) (D : zYd) (fu we bu he : Nat → Int32) (hd : 3 ≤ dd) (hR : yR D nw) (hC : D.1 14 ≤ 8) (hRo : D.1 15 ≤ 8) (hfb : fBk (D.1 14 * D.1 15) fu bu) (hwb : ∀ k, k < (D.1 14 * D.1 15) → ∃ x, x < 2147483648 ∧ we k = nI x)
    (hk : zS (l, mX13_minute, dd, Po, K0, h0, Xo, Gc) 0 0 150 [(0, .ref mo)] [] [(mo, .inr (11, fMo e (upd g 70 (g 70 + pCnt bu (D.1 14 * D.1 15))) w)), ((e 14), .inl (0, 800, .inl nw)), ((e 64), .inl (0, 64, .inl (pCl (nFu fu bu) fu (D.1 14 * D.1 15)))), ((e 65), .inl (0, 64, .inl (pCl (mX fu bu) bu (D.1 14 * D.1 15)))), ((e 66), .inl (0, 64, .inl we)), ((e 67), .inl (0, 64, .inl (pCl (hK (D.1 14) (D.1 15) D.2.1 fu bu) he (D.1 14 * D.1 15))))]) :
    ∀ (m i : Nat) , i + m = (D.1 14 * D.1 15) → zS (l, mX13_minute, dd, Po, K0, h0, Xo, Gc) 0 0 88 [(0, .ref mo), (3, .int (nI i))] [] [(mo, .inr (11, fMo e (upd g 70 (g 70 + pCnt bu i)) w)), ((e 14), .inl (0, 800, .inl nw)), ((e 64), .inl (0, 64, .inl (pCl (nFu fu bu) fu i))), ((e 65), .inl (0, 64, .inl (pCl (mX fu bu) bu i))), ((e 66), .inl (0, 64, .inl we)), ((e 67), .inl (0, 64, .inl (pCl (hK (D.1 14) (D.1 15) D.2.1 fu bu) he (D.1 14 * D.1 15))))] := by
  intro m
  induction m with
  | zero =>
    intro i hi
    have h64 : D.1 14 * D.1 15 ≤ 64 := Nat.mul_le_mul hC hRo
    refine zs_iload_n dX13_minute_88 rfl ?_
    refine zs_aload_n dX13_minute_89 rfl rfl ?_
    refine zs_callV (M := mX13_cells) (As := []) (st := [.int (nI i)]) (Kc := [(mo, .inr (11, fMo e (upd g 70 (g 70 + pCnt bu i)) w)), ((e 14), .inl (0, 800, .inl nw))]) (Kr := [((e 64), .inl (0, 64, .inl (pCl (nFu fu bu) fu i))), ((e 65), .inl (0, 64, .inl (pCl (mX fu bu) bu i))), ((e 66), .inl (0, 64, .inl we)), ((e 67), .inl (0, 64, .inl (pCl (hK (D.1 14) (D.1 15) D.2.1 fu bu) he (D.1 14 * D.1 15))))]) [0, 1] [2, 3, 4, 5] 0 dX13_minute_90 zl_RX13_426 kX13_cells rfl rfl rfl rfl rfl (by decide) rfl rfl (show dd - 1 + 1 ≤ dd by omega) (Nat.zero_le _) (Nat.zero_le _) (Nat.le_of_ble_eq_true rfl) (s_mCells l (dd - 1) mo e (upd g 70 (g 70 + pCnt bu i)) w nw D hR) (fun r K1 hr => ?_)
    obtain ⟨rfl, rfl⟩ := hr
    refine zs_K (K' := [(mo, .inr (11, fMo e (upd g 70 (g 70 + pCnt bu i)) w)), ((e 14), .inl (0, 800, .inl nw)), ((e 64), .inl (0, 64, .inl (pCl (nFu fu bu) fu i))), ((e 65), .inl (0, 64, .inl (pCl (mX fu bu) bu i))), ((e 66), .inl (0, 64, .inl we)), ((e 67), .inl (0, 64, .inl (pCl (hK (D.1 14) (D.1 15) D.2.1 fu bu) he (D.1 14 * D.1 15))))]) [4, 5, 0, 1, 2, 3] rfl (by decide) ?_
    refine zs_icmp_ge (tgt := 150) dX13_minute_93 (by decide) (fun c_1 => ?_) (fun c_1 => (c_1 (by rw [show i = (D.1 14 * D.1 15) by omega]; exact Int32.le_refl _) : False).elim)
    rw [show i = (D.1 14 * D.1 15) by omega]
    refine zs_lv [0] rfl ?_
    exact hk
  | succ m ih =>
    intro i hi
    have h64 : D.1 14 * D.1 15 ≤ 64 := Nat.mul_le_mul hC hRo
    refine zs_iload_n dX13_minute_88 rfl ?_
    refine zs_aload_n dX13_minute_89 rfl rfl ?_
    refine zs_callV (M := mX13_cells) (As := []) (st := [.int (nI i)]) (Kc := [(mo, .inr (11, fMo e (upd g 70 (g 70 + pCnt bu i)) w)), ((e 14), .inl (0, 800, .inl nw))]) (Kr := [((e 64), .inl (0, 64, .inl (pCl (nFu fu bu) fu i))), ((e 65), .inl (0, 64, .inl (pCl (mX fu bu) bu i))), ((e 66), .inl (0, 64, .inl we)), ((e 67), .inl (0, 64, .inl (pCl (hK (D.1 14) (D.1 15) D.2.1 fu bu) he (D.1 14 * D.1 15))))]) [0, 1] [2, 3, 4, 5] 0 dX13_minute_90 zl_RX13_426 kX13_cells rfl rfl rfl rfl rfl (by decide) rfl rfl (show dd - 1 + 1 ≤ dd by omega) (Nat.zero_le _) (Nat.zero_le _) (Nat.le_of_ble_eq_true rfl) (s_mCells l (dd - 1) mo e (upd g 70 (g 70 + pCnt bu i)) w nw D hR) (fun r K1 hr => ?_)
    obtain ⟨rfl, rfl⟩ := hr
    refine zs_K (K' := [(mo, .inr (11, fMo e (upd g 70 (g 70 + pCnt bu i)) w)), ((e 14), .inl (0, 800, .inl nw)), ((e 64), .inl (0, 64, .inl (pCl (nFu fu bu) fu i))), ((e 65), .inl (0, 64, .inl (pCl (mX fu bu) bu i))), ((e 66), .inl (0, 64, .inl we)), ((e 67), .inl (0, 64, .inl (pCl (hK (D.1 14) (D.1 15) D.2.1 fu bu) he (D.1 14 * D.1 15))))]) [4, 5, 0, 1, 2, 3] rfl (by decide) ?_
    refine zs_icmp_ge (tgt := 150) dX13_minute_93 (by decide) (fun c_1 => (nI_ge (show i < (D.1 14 * D.1 15) by omega) (by omega) c_1 : False).elim) (fun c_1 => ?_)
    refine zs_aload_n dX13_minute_96 rfl rfl ?_
    refine zs_get 0 dX13_minute_97 zf_RX13_108 rfl (v := .ref (e 65)) rfl ?_
    refine zs_iload_n dX13_minute_100 rfl ?_
    refine zs_iald 3 dX13_minute_101 rfl (vp_in_nI (by omega) (by omega)) ?_
    refine zs_as (y := bu i) (by rw [nI_c (n := i) (by omega)]; exact pCl_at _ _ _) ?_
    refine zs_if_ne (tgt := 108) dX13_minute_102 (by decide) (fun c_2 => ?_) (fun c_2 => ?_)
    · have hb1 := c_2
      refine zs_aload_n dX13_minute_108 rfl rfl ?_
      refine zs_get 0 dX13_minute_109 zf_RX13_105 rfl (v := .ref (e 64)) rfl ?_
      refine zs_iload_n dX13_minute_112 rfl ?_
      refine zs_dup2 dX13_minute_113 rfl rfl ?_
      refine zs_iald 2 dX13_minute_114 rfl (vp_in_nI (by omega) (by omega)) ?_
      refine zs_as (y := fu i) (by rw [nI_c (n := i) (by omega)]; exact pCl_at _ _ _) ?_
      refine zs_iconst (v := nI 1) dX13_minute_115 (by decide) ?_
      refine zs_isub dX13_minute_116 ?_
      refine zs_iast 2 dX13_minute_117 rfl (vp_in_nI (by omega) (by omega)) ?_
      rw [nI_c (n := i) (by omega)]
      show zS _ _ _ _ _ _ [(mo, .inr (11, fMo e (upd g 70 (g 70 + pCnt bu i)) w)), ((e 14), .inl (0, 800, .inl nw)), ((e 64), .inl (0, 64, .inl (upd (pCl (nFu fu bu) fu i) i ((fu i) - (nI 1))))), ((e 65), .inl (0, 64, .inl (pCl (mX fu bu) bu i))), ((e 66), .inl (0, 64, .inl we)), ((e 67), .inl (0, 64, .inl (pCl (hK (D.1 14) (D.1 15) D.2.1 fu bu) he (D.1 14 * D.1 15))))]
      refine zs_aload_n dX13_minute_118 rfl rfl ?_
      refine zs_dup dX13_minute_119 rfl ?_
      refine zs_get 0 dX13_minute_120 zf_RX13_423 rfl (v := .int (g 70 + pCnt bu i)) rfl ?_
      refine zs_iconst (v := nI 1) dX13_minute_123 (by decide) ?_
      refine zs_iadd dX13_minute_124 ?_
      refine zs_as (y := (g 70 + pCnt bu (i + 1))) (by rw [pCnt_s hb1]; exact Int32.add_assoc _ _ _) ?_
      refine zs_put 0 dX13_minute_125 zf_RX13_423 rfl (Nat.le_of_ble_eq_true rfl) (zPv_i _) ?_
      show zS _ _ _ _ _ _ [(mo, .inr (11, fMo e (upd g 70 (g 70 + pCnt bu (i + 1))) w)), ((e 14), .inl (0, 800, .inl nw)), ((e 64), .inl (0, 64, .inl (upd (pCl (nFu fu bu) fu i) i ((fu i) - (nI 1))))), ((e 65), .inl (0, 64, .inl (pCl (mX fu bu) bu i))), ((e 66), .inl (0, 64, .inl we)), ((e 67), .inl (0, 64, .inl (pCl (hK (D.1 14) (D.1 15) D.2.1 fu bu) he (D.1 14 * D.1 15))))]
      refine zs_aload_n dX13_minute_128 rfl rfl ?_
      refine zs_get 0 dX13_minute_129 zf_RX13_105 rfl (v := .ref (e 64)) rfl ?_
      refine zs_iload_n dX13_minute_132 rfl ?_
      refine zs_iald 2 dX13_minute_133 rfl (vp_in_nI (by omega) (by omega)) ?_
      refine zs_as (y := fu i - nI 1) (by rw [nI_c (n := i) (by omega), upd_s]) ?_
      refine zs_if_ne (tgt := 144) dX13_minute_134 (by decide) (fun c_3 => ?_) (fun c_3 => ?_)
      · have hk1 := c_3
        refine zs_iinc (v := (nI (i + 1))) (lv' := [(3, .int (nI (i + 1))), (0, .ref mo)]) dX13_minute_144 rfl (nI_add _ 1) (Nat.le_of_ble_eq_true rfl) rfl ?_
        refine zs_goto (tgt := 88) dX13_minute_147 (by decide) ?_
        refine zs_lv [1, 0] rfl ?_
        rw [show (upd (pCl (nFu fu bu) fu i) i ((fu i) - (nI 1))) = pCl (nFu fu bu) fu (i + 1) from pCl_u (if_neg hb1)]
        rw [show (pCl (mX fu bu) bu i) = pCl (mX fu bu) bu (i + 1) from pCl_k ((if_neg hb1).trans (if_neg hk1))]
        exact ih (i + 1) (by omega)
      · have hk0 := c_3
        refine zs_aload_n dX13_minute_137 rfl rfl ?_
        refine zs_get 0 dX13_minute_138 zf_RX13_108 rfl (v := .ref (e 65)) rfl ?_
        refine zs_iload_n dX13_minute_141 rfl ?_
        refine zs_iconst (v := nI 0) dX13_minute_142 (by decide) ?_
        refine zs_iast 3 dX13_minute_143 rfl (vp_in_nI (by omega) (by omega)) ?_
        rw [nI_c (n := i) (by omega)]
        show zS _ _ _ _ _ _ [(mo, .inr (11, fMo e (upd g 70 (g 70 + pCnt bu (i + 1))) w)), ((e 14), .inl (0, 800, .inl nw)), ((e 64), .inl (0, 64, .inl (upd (pCl (nFu fu bu) fu i) i ((fu i) - (nI 1))))), ((e 65), .inl (0, 64, .inl (upd (pCl (mX fu bu) bu i) i (nI 0)))), ((e 66), .inl (0, 64, .inl we)), ((e 67), .inl (0, 64, .inl (pCl (hK (D.1 14) (D.1 15) D.2.1 fu bu) he (D.1 14 * D.1 15))))]
        refine zs_iinc (v := (nI (i + 1))) (lv' := [(3, .int (nI (i + 1))), (0, .ref mo)]) dX13_minute_144 rfl (nI_add _ 1) (Nat.le_of_ble_eq_true rfl) rfl ?_
        refine zs_goto (tgt := 88) dX13_minute_147 (by decide) ?_
        refine zs_lv [1, 0] rfl ?_
        rw [show (upd (pCl (nFu fu bu) fu i) i ((fu i) - (nI 1))) = pCl (nFu fu bu) fu (i + 1) from pCl_u (if_neg hb1)]
        rw [show (upd (pCl (mX fu bu) bu i) i (nI 0)) = pCl (mX fu bu) bu (i + 1) from pCl_u ((if_neg hb1).trans (if_pos hk0))]
        exact ih (i + 1) (by omega)
    · have hb0 := c_2
      refine zs_goto (tgt := 144) dX13_minute_105 (by decide) ?_
      refine zs_iinc (v := (nI (i + 1))) (lv' := [(3, .int (nI (i + 1))), (0, .ref mo)]) dX13_minute_144 rfl (nI_add _ 1) (Nat.le_of_ble_eq_true rfl) rfl ?_
      refine zs_goto (tgt := 88) dX13_minute_147 (by decide) ?_
      refine zs_lv [1, 0] rfl ?_
      rw [show (pCl (nFu fu bu) fu i) = pCl (nFu fu bu) fu (i + 1) from pCl_k (if_pos hb0), show (pCl (mX fu bu) bu i) = pCl (mX fu bu) bu (i + 1) from pCl_k (if_pos hb0), show pCnt bu i = pCnt bu (i + 1) from (pCnt_z hb0).symm]
      exact ih (i + 1) (by omega)
set_option maxRecDepth 100000 in
theorem lp_mmi3 {l : Launch} {dd : Nat} {Po : zPo} {K0 : zK} {h0 : List va_E} {Xo : zK → Prop} {Gc : zG → Prop} (mo : Nat) (e : Nat → Nat) (g : Nat → Int32) (w : Int64) (nw : Nat → Int32) (D : zYd) (fu we bu he : Nat → Int32) (hd : 3 ≤ dd) (hR : yR D nw) (hC : D.1 14 ≤ 8) (hRo : D.1 15 ≤ 8) (hfb : fBk (D.1 14 * D.1 15) fu bu) (hwb : ∀ k, k < (D.1 14 * D.1 15) → ∃ x, x < 2147483648 ∧ we k = nI x)
    (hk : zS (l, mX13_minute, dd, Po, K0, h0, Xo, Gc) 0 0 192 [] [] [(mo, .inr (11, fMo e (upd g 70 (g 70 + pCnt bu (D.1 14 * D.1 15))) w)), ((e 14), .inl (0, 800, .inl nw)), ((e 64), .inl (0, 64, .inl (pCl (nFu fu bu) fu (D.1 14 * D.1 15)))), ((e 65), .inl (0, 64, .inl (pCl (nBu fu bu (pH0 (D.1 14) (D.1 15) D.2.1 fu bu) we) (pCl (mX fu bu) bu (D.1 14 * D.1 15)) (D.1 14 * D.1 15)))), ((e 66), .inl (0, 64, .inl we)), ((e 67), .inl (0, 64, .inl (pCl (hK (D.1 14) (D.1 15) D.2.1 fu bu) he (D.1 14 * D.1 15))))]) :
    ∀ (m i : Nat) , i + m = (D.1 14 * D.1 15) → zS (l, mX13_minute, dd, Po, K0, h0, Xo, Gc) 0 0 152 [(0, .ref mo), (3, .int (nI i))] [] [(mo, .inr (11, fMo e (upd g 70 (g 70 + pCnt bu (D.1 14 * D.1 15))) w)), ((e 14), .inl (0, 800, .inl nw)), ((e 64), .inl (0, 64, .inl (pCl (nFu fu bu) fu (D.1 14 * D.1 15)))), ((e 65), .inl (0, 64, .inl (pCl (nBu fu bu (pH0 (D.1 14) (D.1 15) D.2.1 fu bu) we) (pCl (mX fu bu) bu (D.1 14 * D.1 15)) i))), ((e 66), .inl (0, 64, .inl we)), ((e 67), .inl (0, 64, .inl (pCl (hK (D.1 14) (D.1 15) D.2.1 fu bu) he (D.1 14 * D.1 15))))] := by
  intro m
  induction m with
  | zero =>
    intro i hi
    have h64 : D.1 14 * D.1 15 ≤ 64 := Nat.mul_le_mul hC hRo
    refine zs_iload_n dX13_minute_152 rfl ?_
    refine zs_aload_n dX13_minute_153 rfl rfl ?_
    refine zs_callV (M := mX13_cells) (As := []) (st := [.int (nI i)]) (Kc := [(mo, .inr (11, fMo e (upd g 70 (g 70 + pCnt bu (D.1 14 * D.1 15))) w)), ((e 14), .inl (0, 800, .inl nw))]) (Kr := [((e 64), .inl (0, 64, .inl (pCl (nFu fu bu) fu (D.1 14 * D.1 15)))), ((e 65), .inl (0, 64, .inl (pCl (nBu fu bu (pH0 (D.1 14) (D.1 15) D.2.1 fu bu) we) (pCl (mX fu bu) bu (D.1 14 * D.1 15)) i))), ((e 66), .inl (0, 64, .inl we)), ((e 67), .inl (0, 64, .inl (pCl (hK (D.1 14) (D.1 15) D.2.1 fu bu) he (D.1 14 * D.1 15))))]) [0, 1] [2, 3, 4, 5] 0 dX13_minute_154 zl_RX13_426 kX13_cells rfl rfl rfl rfl rfl (by decide) rfl rfl (show dd - 1 + 1 ≤ dd by omega) (Nat.zero_le _) (Nat.zero_le _) (Nat.le_of_ble_eq_true rfl) (s_mCells l (dd - 1) mo e (upd g 70 (g 70 + pCnt bu (D.1 14 * D.1 15))) w nw D hR) (fun r K1 hr => ?_)
    obtain ⟨rfl, rfl⟩ := hr
    refine zs_K (K' := [(mo, .inr (11, fMo e (upd g 70 (g 70 + pCnt bu (D.1 14 * D.1 15))) w)), ((e 14), .inl (0, 800, .inl nw)), ((e 64), .inl (0, 64, .inl (pCl (nFu fu bu) fu (D.1 14 * D.1 15)))), ((e 65), .inl (0, 64, .inl (pCl (nBu fu bu (pH0 (D.1 14) (D.1 15) D.2.1 fu bu) we) (pCl (mX fu bu) bu (D.1 14 * D.1 15)) i))), ((e 66), .inl (0, 64, .inl we)), ((e 67), .inl (0, 64, .inl (pCl (hK (D.1 14) (D.1 15) D.2.1 fu bu) he (D.1 14 * D.1 15))))]) [4, 5, 0, 1, 2, 3] rfl (by decide) ?_
    refine zs_icmp_ge (tgt := 192) dX13_minute_157 (by decide) (fun c_1 => ?_) (fun c_1 => (c_1 (by rw [show i = (D.1 14 * D.1 15) by omega]; exact Int32.le_refl _) : False).elim)
    rw [show i = (D.1 14 * D.1 15) by omega]
    refine zs_lv [] rfl ?_
    exact hk
  | succ m ih =>
    intro i hi
    have h64 : D.1 14 * D.1 15 ≤ 64 := Nat.mul_le_mul hC hRo
    refine zs_iload_n dX13_minute_152 rfl ?_
    refine zs_aload_n dX13_minute_153 rfl rfl ?_
    refine zs_callV (M := mX13_cells) (As := []) (st := [.int (nI i)]) (Kc := [(mo, .inr (11, fMo e (upd g 70 (g 70 + pCnt bu (D.1 14 * D.1 15))) w)), ((e 14), .inl (0, 800, .inl nw))]) (Kr := [((e 64), .inl (0, 64, .inl (pCl (nFu fu bu) fu (D.1 14 * D.1 15)))), ((e 65), .inl (0, 64, .inl (pCl (nBu fu bu (pH0 (D.1 14) (D.1 15) D.2.1 fu bu) we) (pCl (mX fu bu) bu (D.1 14 * D.1 15)) i))), ((e 66), .inl (0, 64, .inl we)), ((e 67), .inl (0, 64, .inl (pCl (hK (D.1 14) (D.1 15) D.2.1 fu bu) he (D.1 14 * D.1 15))))]) [0, 1] [2, 3, 4, 5] 0 dX13_minute_154 zl_RX13_426 kX13_cells rfl rfl rfl rfl rfl (by decide) rfl rfl (show dd - 1 + 1 ≤ dd by omega) (Nat.zero_le _) (Nat.zero_le _) (Nat.le_of_ble_eq_true rfl) (s_mCells l (dd - 1) mo e (upd g 70 (g 70 + pCnt bu (D.1 14 * D.1 15))) w nw D hR) (fun r K1 hr => ?_)
    obtain ⟨rfl, rfl⟩ := hr
    refine zs_K (K' := [(mo, .inr (11, fMo e (upd g 70 (g 70 + pCnt bu (D.1 14 * D.1 15))) w)), ((e 14), .inl (0, 800, .inl nw)), ((e 64), .inl (0, 64, .inl (pCl (nFu fu bu) fu (D.1 14 * D.1 15)))), ((e 65), .inl (0, 64, .inl (pCl (nBu fu bu (pH0 (D.1 14) (D.1 15) D.2.1 fu bu) we) (pCl (mX fu bu) bu (D.1 14 * D.1 15)) i))), ((e 66), .inl (0, 64, .inl we)), ((e 67), .inl (0, 64, .inl (pCl (hK (D.1 14) (D.1 15) D.2.1 fu bu) he (D.1 14 * D.1 15))))]) [4, 5, 0, 1, 2, 3] rfl (by decide) ?_
    refine zs_icmp_ge (tgt := 192) dX13_minute_157 (by decide) (fun c_1 => (nI_ge (show i < (D.1 14 * D.1 15) by omega) (by omega) c_1 : False).elim) (fun c_1 => ?_)
    refine zs_aload_n dX13_minute_160 rfl rfl ?_
    refine zs_get 0 dX13_minute_161 zf_RX13_114 rfl (v := .ref (e 67)) rfl ?_
    refine zs_iload_n dX13_minute_164 rfl ?_
    refine zs_iald 5 dX13_minute_165 rfl (vp_in_nI (by omega) (by omega)) ?_
    refine zs_as (y := (hK (D.1 14) (D.1 15) D.2.1 fu bu i)) (by rw [nI_c (n := i) (by omega)]; exact if_pos (show i < (D.1 14 * D.1 15) by omega)) ?_
    refine zs_iconst (v := nI 5) dX13_minute_166 (by decide) ?_
    refine zs_aload_n dX13_minute_167 rfl rfl ?_
    refine zs_get 0 dX13_minute_168 zf_RX13_111 rfl (v := .ref (e 66)) rfl ?_
    refine zs_iload_n dX13_minute_171 rfl ?_
    refine zs_iald 4 dX13_minute_172 rfl (vp_in_nI (by omega) (by omega)) ?_
    refine zs_as (y := we i) (by rw [nI_c (n := i) (by omega)]) ?_
    refine zs_iconst (v := nI 2) dX13_minute_173 (by decide) ?_
    refine zs_idiv dX13_minute_174 (by decide) ?_
    refine zs_iadd dX13_minute_175 ?_
    refine zs_icmp_lt (tgt := 186) dX13_minute_176 (by decide) (fun c_2 => ?_) (fun c_2 => ?_)
    · have hcold := c_2
      refine zs_iinc (v := (nI (i + 1))) (lv' := [(3, .int (nI (i + 1))), (0, .ref mo)]) dX13_minute_186 rfl (nI_add _ 1) (Nat.le_of_ble_eq_true rfl) rfl ?_
      refine zs_goto (tgt := 152) dX13_minute_189 (by decide) ?_
      refine zs_lv [1, 0] rfl ?_
      rw [show (pCl (nBu fu bu (pH0 (D.1 14) (D.1 15) D.2.1 fu bu) we) (pCl (mX fu bu) bu (D.1 14 * D.1 15)) i) = pCl (nBu fu bu (pH0 (D.1 14) (D.1 15) D.2.1 fu bu) we) (pCl (mX fu bu) bu (D.1 14 * D.1 15)) (i + 1) from pCl_k ((nB_0 hfb (by omega) hcold).trans (if_pos (show i < (D.1 14 * D.1 15) by omega)).symm)]
      exact ih (i + 1) (by omega)
    · have hhot := c_2
      refine zs_aload_n dX13_minute_179 rfl rfl ?_
      refine zs_get 0 dX13_minute_180 zf_RX13_108 rfl (v := .ref (e 65)) rfl ?_
      refine zs_iload_n dX13_minute_183 rfl ?_
      refine zs_iconst (v := nI 1) dX13_minute_184 (by decide) ?_
      refine zs_iast 3 dX13_minute_185 rfl (vp_in_nI (by omega) (by omega)) ?_
      rw [nI_c (n := i) (by omega)]
      show zS _ _ _ _ _ _ [(mo, .inr (11, fMo e (upd g 70 (g 70 + pCnt bu (D.1 14 * D.1 15))) w)), ((e 14), .inl (0, 800, .inl nw)), ((e 64), .inl (0, 64, .inl (pCl (nFu fu bu) fu (D.1 14 * D.1 15)))), ((e 65), .inl (0, 64, .inl (upd (pCl (nBu fu bu (pH0 (D.1 14) (D.1 15) D.2.1 fu bu) we) (pCl (mX fu bu) bu (D.1 14 * D.1 15)) i) i (nI 1)))), ((e 66), .inl (0, 64, .inl we)), ((e 67), .inl (0, 64, .inl (pCl (hK (D.1 14) (D.1 15) D.2.1 fu bu) he (D.1 14 * D.1 15))))]
      refine zs_iinc (v := (nI (i + 1))) (lv' := [(3, .int (nI (i + 1))), (0, .ref mo)]) dX13_minute_186 rfl (nI_add _ 1) (Nat.le_of_ble_eq_true rfl) rfl ?_
      refine zs_goto (tgt := 152) dX13_minute_189 (by decide) ?_
      refine zs_lv [1, 0] rfl ?_
      rw [show (upd (pCl (nBu fu bu (pH0 (D.1 14) (D.1 15) D.2.1 fu bu) we) (pCl (mX fu bu) bu (D.1 14 * D.1 15)) i) i (nI 1)) = pCl (nBu fu bu (pH0 (D.1 14) (D.1 15) D.2.1 fu bu) we) (pCl (mX fu bu) bu (D.1 14 * D.1 15)) (i + 1) from pCl_u (nB_1 hfb (by omega) (hwb i (by omega)) hhot)]
      exact ih (i + 1) (by omega)
set_option maxRecDepth 100000 in
theorem mm_50 {l : Launch} {dd : Nat} {Po : zPo} {K0 : zK} {h0 : List va_E} {Xo : zK → Prop} {Gc : zG → Prop} (mo : Nat) (e : Nat → Nat) (g : Nat → Int32) (w : Int64) (nw : Nat → Int32) (D : zYd) (fu we bu he : Nat → Int32) (hd : 3 ≤ dd) (hR : yR D nw) (hC : D.1 14 ≤ 8) (hRo : D.1 15 ≤ 8) (hfb : fBk (D.1 14 * D.1 15) fu bu) (hwb : ∀ k, k < (D.1 14 * D.1 15) → ∃ x, x < 2147483648 ∧ we k = nI x) (hk : zS (l, mX13_minute, dd, Po, K0, h0, Xo, Gc) 0 0 192 [] [] [(mo, .inr (11, fMo e (upd g 70 (g 70 + pCnt bu (D.1 14 * D.1 15))) w)), ((e 14), .inl (0, 800, .inl nw)), ((e 64), .inl (0, 64, .inl (pCl (nFu fu bu) fu (D.1 14 * D.1 15)))), ((e 65), .inl (0, 64, .inl (pCl (nBu fu bu (pH0 (D.1 14) (D.1 15) D.2.1 fu bu) we) bu (D.1 14 * D.1 15)))), ((e 66), .inl (0, 64, .inl we)), ((e 67), .inl (0, 64, .inl (pCl (hK (D.1 14) (D.1 15) D.2.1 fu bu) he (D.1 14 * D.1 15))))]) : zS (l, mX13_minute, dd, Po, K0, h0, Xo, Gc) 0 0 50 [(0, .ref mo)] [] [(mo, .inr (11, fMo e g w)), ((e 14), .inl (0, 800, .inl nw)), ((e 64), .inl (0, 64, .inl fu)), ((e 65), .inl (0, 64, .inl bu)), ((e 66), .inl (0, 64, .inl we)), ((e 67), .inl (0, 64, .inl he))] := by
  refine zs_iconst (v := nI 0) dX13_minute_50 (by decide) ?_
  refine zs_istore_n (lv' := [(3, .int (nI 0)), (0, .ref mo)]) dX13_minute_51 (Nat.le_of_ble_eq_true rfl) rfl ?_
  refine zs_eq (K' := [(mo, .inr (11, fMo e g w)), ((e 14), .inl (0, 800, .inl nw)), ((e 64), .inl (0, 64, .inl fu)), ((e 65), .inl (0, 64, .inl bu)), ((e 66), .inl (0, 64, .inl we)), ((e 67), .inl (0, 64, .inl (pCl (hK (D.1 14) (D.1 15) D.2.1 fu bu) he 0)))]) (by rw [pCl_0]) ?_
  refine zs_lv [1, 0] rfl ?_
  refine lp_mmi1 mo e g w nw D fu we bu he hd hR hC hRo hfb hwb ?_ (D.1 14 * D.1 15) 0 (Nat.zero_add _)
  refine zs_iconst (v := nI 0) dX13_minute_86 (by decide) ?_
  refine zs_istore_n (lv' := [(3, .int (nI 0)), (0, .ref mo)]) dX13_minute_87 (Nat.le_of_ble_eq_true rfl) rfl ?_
  refine zs_eq (K' := [(mo, .inr (11, fMo e (upd g 70 (g 70 + pCnt bu 0)) w)), ((e 14), .inl (0, 800, .inl nw)), ((e 64), .inl (0, 64, .inl (pCl (nFu fu bu) fu 0))), ((e 65), .inl (0, 64, .inl (pCl (mX fu bu) bu 0))), ((e 66), .inl (0, 64, .inl we)), ((e 67), .inl (0, 64, .inl (pCl (hK (D.1 14) (D.1 15) D.2.1 fu bu) he (D.1 14 * D.1 15))))]) (by rw [pCl_0, pCl_0, upd_id (show g 70 = g 70 + pCnt bu 0 from (Int32.add_zero _).symm)]) ?_
  refine zs_lv [1, 0] rfl ?_
  refine lp_mmi2 mo e g w nw D fu we bu he hd hR hC hRo hfb hwb ?_ (D.1 14 * D.1 15) 0 (Nat.zero_add _)
  refine zs_iconst (v := nI 0) dX13_minute_150 (by decide) ?_
  refine zs_istore_n (lv' := [(3, .int (nI 0)), (0, .ref mo)]) dX13_minute_151 (Nat.le_of_ble_eq_true rfl) rfl ?_
  refine zs_eq (K' := [(mo, .inr (11, fMo e (upd g 70 (g 70 + pCnt bu (D.1 14 * D.1 15))) w)), ((e 14), .inl (0, 800, .inl nw)), ((e 64), .inl (0, 64, .inl (pCl (nFu fu bu) fu (D.1 14 * D.1 15)))), ((e 65), .inl (0, 64, .inl (pCl (nBu fu bu (pH0 (D.1 14) (D.1 15) D.2.1 fu bu) we) (pCl (mX fu bu) bu (D.1 14 * D.1 15)) 0))), ((e 66), .inl (0, 64, .inl we)), ((e 67), .inl (0, 64, .inl (pCl (hK (D.1 14) (D.1 15) D.2.1 fu bu) he (D.1 14 * D.1 15))))]) (by rw [pCl_0 _ (pCl (mX fu bu) bu (D.1 14 * D.1 15))]) ?_
  refine zs_lv [1, 0] rfl ?_
  refine lp_mmi3 mo e g w nw D fu we bu he hd hR hC hRo hfb hwb ?_ (D.1 14 * D.1 15) 0 (Nat.zero_add _)
  refine zs_eq (K' := [(mo, .inr (11, fMo e (upd g 70 (g 70 + pCnt bu (D.1 14 * D.1 15))) w)), ((e 14), .inl (0, 800, .inl nw)), ((e 64), .inl (0, 64, .inl (pCl (nFu fu bu) fu (D.1 14 * D.1 15)))), ((e 65), .inl (0, 64, .inl (pCl (nBu fu bu (pH0 (D.1 14) (D.1 15) D.2.1 fu bu) we) bu (D.1 14 * D.1 15)))), ((e 66), .inl (0, 64, .inl we)), ((e 67), .inl (0, 64, .inl (pCl (hK (D.1 14) (D.1 15) D.2.1 fu bu) he (D.1 14 * D.1 15))))]) (by rw [pCl_cl]) ?_
  exact hk

set_option maxRecDepth 100000 in
theorem s_mMin1 (l : Launch) (dd : Nat) (mo : Nat) (e : Nat → Nat) (g : Nat → Int32) (w : Int64) (nw : Nat → Int32) (D : zYd) (s : zFs) (he : Nat → Int32) (V u : Nat) (hd : 3 ≤ dd) (hR : yR D nw) (hC : D.1 14 ≤ 8) (hRo : D.1 15 ≤ 8) (hs : fK (D.1 14 * D.1 15) V s) (hV : V + u < 2147483648) : zSp l mX13_minute dd 0 0 [.ref mo, .int (-1), .int (nI u)] [(mo, .inr (11, fMo e g w)), ((e 14), .inl (0, 800, .inl nw)), ((e 64), .inl (0, 64, .inl (s.1))), ((e 65), .inl (0, 64, .inl (s.2.2))), ((e 66), .inl (0, 64, .inl (s.2.1))), ((e 67), .inl (0, 64, .inl he))] (fun r K' => r = none ∧ ∃ (he' : Nat → Int32), K' = [(mo, .inr (11, fMo e (upd g 70 (g 70 + mLs (D.1 14) (D.1 15) s (-1) (nI u))) w)), ((e 14), .inl (0, 800, .inl nw)), ((e 64), .inl (0, 64, .inl ((mMin (D.1 14) (D.1 15) D.2.1 s (-1) (nI u)).1))), ((e 65), .inl (0, 64, .inl ((mMin (D.1 14) (D.1 15) D.2.1 s (-1) (nI u)).2.2))), ((e 66), .inl (0, 64, .inl ((mMin (D.1 14) (D.1 15) D.2.1 s (-1) (nI u)).2.1))), ((e 67), .inl (0, 64, .inl (he')))]) := by
  refine zSp.of (by decide) (Nat.le_of_ble_eq_true rfl) (fun h0 => ?_)
  show zS _ 0 0 0 [(0, .ref mo), (1, .int (-1)), (2, .int (nI u))] [] [(mo, .inr (11, fMo e g w)), ((e 14), .inl (0, 800, .inl nw)), ((e 64), .inl (0, 64, .inl (s.1))), ((e 65), .inl (0, 64, .inl (s.2.2))), ((e 66), .inl (0, 64, .inl (s.2.1))), ((e 67), .inl (0, 64, .inl he))]
  have h64 : D.1 14 * D.1 15 ≤ 64 := Nat.mul_le_mul hC hRo
  have hcc : aC (D.1 14 * D.1 15) (-1) := Or.inl rfl
  refine zs_iload_n dX13_minute_0 rfl ?_
  refine zs_iconst (v := (-1)) dX13_minute_1 (by decide) ?_
  refine zs_icmp_eq (tgt := 50) dX13_minute_2 (by decide) (fun c_1 => ?_) (fun c_1 => (absurd rfl c_1 : False).elim)
  have hW : (s.2.1) = (mW (D.1 14) (D.1 15) s (-1) (nI u)) := pWe_1.symm
  have hB : (s.2.2) = (mB (D.1 14) (D.1 15) s (-1) (nI u)) := by
    have hq : (s.2.2) = (pBu (D.1 14 * D.1 15) s.1 (s.2.1) s.2.2 (-1)) := pBu_1.symm
    rw [hq]; exact congrArg (fun z => pBu (D.1 14 * D.1 15) s.1 z s.2.2 (-1)) hW
  refine zs_eq (K' := [(mo, .inr (11, fMo e g w)), ((e 14), .inl (0, 800, .inl nw)), ((e 64), .inl (0, 64, .inl (s.1))), ((e 65), .inl (0, 64, .inl (mB (D.1 14) (D.1 15) s (-1) (nI u)))), ((e 66), .inl (0, 64, .inl (mW (D.1 14) (D.1 15) s (-1) (nI u)))), ((e 67), .inl (0, 64, .inl he))]) (by rw [hB, hW]) ?_
  refine zs_lv [0] rfl ?_
  refine mm_50 mo e g w nw D (s.1) (mW (D.1 14) (D.1 15) s (-1) (nI u)) (mB (D.1 14) (D.1 15) s (-1) (nI u)) he hd hR hC hRo (fB_bu hs.1 h64 hcc) (fun k hk => (pWe_b (u := u) hs.2 h64 hcc k hk).elim fun x hx => ⟨x, by omega, hx.2⟩) ?_
  exact zs_vret dX13_minute_192 rfl ⟨rfl, _, rfl⟩
set_option maxRecDepth 100000 in
theorem s_mMin2 (l : Launch) (dd : Nat) (mo : Nat) (e : Nat → Nat) (g : Nat → Int32) (w : Int64) (nw : Nat → Int32) (D : zYd) (s : zFs) (he : Nat → Int32) (V u : Nat) (k : Nat) (hd : 3 ≤ dd) (hR : yR D nw) (hC : D.1 14 ≤ 8) (hRo : D.1 15 ≤ 8) (hs : fK (D.1 14 * D.1 15) V s) (hV : V + u < 2147483648) (hck : k < (D.1 14 * D.1 15)) : zSp l mX13_minute dd 0 0 [.ref mo, .int (nI k), .int (nI u)] [(mo, .inr (11, fMo e g w)), ((e 14), .inl (0, 800, .inl nw)), ((e 64), .inl (0, 64, .inl (s.1))), ((e 65), .inl (0, 64, .inl (s.2.2))), ((e 66), .inl (0, 64, .inl (s.2.1))), ((e 67), .inl (0, 64, .inl he))] (fun r K' => r = none ∧ ∃ (he' : Nat → Int32), K' = [(mo, .inr (11, fMo e (upd g 70 (g 70 + mLs (D.1 14) (D.1 15) s (nI k) (nI u))) w)), ((e 14), .inl (0, 800, .inl nw)), ((e 64), .inl (0, 64, .inl ((mMin (D.1 14) (D.1 15) D.2.1 s (nI k) (nI u)).1))), ((e 65), .inl (0, 64, .inl ((mMin (D.1 14) (D.1 15) D.2.1 s (nI k) (nI u)).2.2))), ((e 66), .inl (0, 64, .inl ((mMin (D.1 14) (D.1 15) D.2.1 s (nI k) (nI u)).2.1))), ((e 67), .inl (0, 64, .inl (he')))]) := by
  refine zSp.of (by decide) (Nat.le_of_ble_eq_true rfl) (fun h0 => ?_)
  show zS _ 0 0 0 [(0, .ref mo), (1, .int (nI k)), (2, .int (nI u))] [] [(mo, .inr (11, fMo e g w)), ((e 14), .inl (0, 800, .inl nw)), ((e 64), .inl (0, 64, .inl (s.1))), ((e 65), .inl (0, 64, .inl (s.2.2))), ((e 66), .inl (0, 64, .inl (s.2.1))), ((e 67), .inl (0, 64, .inl he))]
  have h64 : D.1 14 * D.1 15 ≤ 64 := Nat.mul_le_mul hC hRo
  have hcc : aC (D.1 14 * D.1 15) (nI k) := Or.inr ⟨k, hck, rfl⟩
  refine zs_iload_n dX13_minute_0 rfl ?_
  refine zs_iconst (v := (-1)) dX13_minute_1 (by decide) ?_
  refine zs_icmp_eq (tgt := 50) dX13_minute_2 (by decide) (fun c_1 => (absurd c_1 (nI_ne1 (by omega)) : False).elim) (fun c_1 => ?_)
  refine zs_aload_n dX13_minute_5 rfl rfl ?_
  refine zs_get 0 dX13_minute_6 zf_RX13_111 rfl (v := .ref (e 66)) rfl ?_
  refine zs_iload_n dX13_minute_9 rfl ?_
  refine zs_dup2 dX13_minute_10 rfl rfl ?_
  refine zs_iald 4 dX13_minute_11 rfl (vp_in_nI (by omega) (by omega)) ?_
  refine zs_as (y := (s.2.1) k) (by rw [nI_c (n := k) (by omega)]) ?_
  refine zs_iload_n dX13_minute_12 rfl ?_
  refine zs_iadd dX13_minute_13 ?_
  refine zs_iast 4 dX13_minute_14 rfl (vp_in_nI (by omega) (by omega)) ?_
  rw [nI_c (n := k) (by omega)]
  show zS _ _ _ _ _ _ [(mo, .inr (11, fMo e g w)), ((e 14), .inl (0, 800, .inl nw)), ((e 64), .inl (0, 64, .inl (s.1))), ((e 65), .inl (0, 64, .inl (s.2.2))), ((e 66), .inl (0, 64, .inl (upd (s.2.1) k (((s.2.1) k) + (nI u))))), ((e 67), .inl (0, 64, .inl he))]
  refine zs_aload_n dX13_minute_15 rfl rfl ?_
  refine zs_get 0 dX13_minute_16 zf_RX13_108 rfl (v := .ref (e 65)) rfl ?_
  refine zs_iload_n dX13_minute_19 rfl ?_
  refine zs_iald 3 dX13_minute_20 rfl (vp_in_nI (by omega) (by omega)) ?_
  refine zs_as (y := (s.2.2) k) (by rw [nI_c (n := k) (by omega)]) ?_
  refine zs_iconst (v := nI 1) dX13_minute_21 (by decide) ?_
  refine zs_icmp_ne (tgt := 50) dX13_minute_22 (by decide) (fun c_2 => ?_) (fun c_2 => ?_)
  · have hoff := fB_0 hs.1 hck c_2
    have hW : (upd (s.2.1) k (((s.2.1) k) + (nI u))) = (mW (D.1 14) (D.1 15) s (nI k) (nI u)) := (pWe_k hck h64).symm
    have hB : (s.2.2) = (mB (D.1 14) (D.1 15) s (nI k) (nI u)) := by
      have hq : (s.2.2) = (pBu (D.1 14 * D.1 15) s.1 (upd (s.2.1) k (((s.2.1) k) + (nI u))) s.2.2 (nI k)) := ((pBu_k hck h64).trans (if_pos hoff)).symm
      rw [hq]; exact congrArg (fun z => pBu (D.1 14 * D.1 15) s.1 z s.2.2 (nI k)) hW
    refine zs_eq (K' := [(mo, .inr (11, fMo e g w)), ((e 14), .inl (0, 800, .inl nw)), ((e 64), .inl (0, 64, .inl (s.1))), ((e 65), .inl (0, 64, .inl (mB (D.1 14) (D.1 15) s (nI k) (nI u)))), ((e 66), .inl (0, 64, .inl (mW (D.1 14) (D.1 15) s (nI k) (nI u)))), ((e 67), .inl (0, 64, .inl he))]) (by rw [hB, hW]) ?_
    refine zs_lv [0] rfl ?_
    refine mm_50 mo e g w nw D (s.1) (mW (D.1 14) (D.1 15) s (nI k) (nI u)) (mB (D.1 14) (D.1 15) s (nI k) (nI u)) he hd hR hC hRo (fB_bu hs.1 h64 hcc) (fun k hk => (pWe_b (u := u) hs.2 h64 hcc k hk).elim fun x hx => ⟨x, by omega, hx.2⟩) ?_
    exact zs_vret dX13_minute_192 rfl ⟨rfl, _, rfl⟩
  · have hon : ¬ s.2.2 k = 0 := by rw [c_2]; decide
    refine zs_aload_n dX13_minute_25 rfl rfl ?_
    refine zs_get 0 dX13_minute_26 zf_RX13_111 rfl (v := .ref (e 66)) rfl ?_
    refine zs_iload_n dX13_minute_29 rfl ?_
    refine zs_iald 4 dX13_minute_30 rfl (vp_in_nI (by omega) (by omega)) ?_
    refine zs_as (y := (upd (s.2.1) k (((s.2.1) k) + (nI u))) k) (by rw [nI_c (n := k) (by omega)]) ?_
    refine zs_bipush (v := nI 10) dX13_minute_31 (by decide) ?_
    refine zs_aload_n dX13_minute_33 rfl rfl ?_
    refine zs_get 0 dX13_minute_34 zf_RX13_105 rfl (v := .ref (e 64)) rfl ?_
    refine zs_iload_n dX13_minute_37 rfl ?_
    refine zs_iald 2 dX13_minute_38 rfl (vp_in_nI (by omega) (by omega)) ?_
    refine zs_as (y := (s.1) k) (by rw [nI_c (n := k) (by omega)]) ?_
    refine zs_imul dX13_minute_39 ?_
    refine zs_icmp_lt (tgt := 50) dX13_minute_40 (by decide) (fun c_3 => ?_) (fun c_3 => ?_)
    · have hdry := c_3
      have hW : (upd (s.2.1) k (((s.2.1) k) + (nI u))) = (mW (D.1 14) (D.1 15) s (nI k) (nI u)) := (pWe_k hck h64).symm
      have hB : (s.2.2) = (mB (D.1 14) (D.1 15) s (nI k) (nI u)) := by
        have hq : (s.2.2) = (pBu (D.1 14 * D.1 15) s.1 (upd (s.2.1) k (((s.2.1) k) + (nI u))) s.2.2 (nI k)) := ((pBu_k hck h64).trans ((if_neg hon).trans (if_pos hdry))).symm
        rw [hq]; exact congrArg (fun z => pBu (D.1 14 * D.1 15) s.1 z s.2.2 (nI k)) hW
      refine zs_eq (K' := [(mo, .inr (11, fMo e g w)), ((e 14), .inl (0, 800, .inl nw)), ((e 64), .inl (0, 64, .inl (s.1))), ((e 65), .inl (0, 64, .inl (mB (D.1 14) (D.1 15) s (nI k) (nI u)))), ((e 66), .inl (0, 64, .inl (mW (D.1 14) (D.1 15) s (nI k) (nI u)))), ((e 67), .inl (0, 64, .inl he))]) (by rw [hB, hW]) ?_
      refine zs_lv [0] rfl ?_
      refine mm_50 mo e g w nw D (s.1) (mW (D.1 14) (D.1 15) s (nI k) (nI u)) (mB (D.1 14) (D.1 15) s (nI k) (nI u)) he hd hR hC hRo (fB_bu hs.1 h64 hcc) (fun k hk => (pWe_b (u := u) hs.2 h64 hcc k hk).elim fun x hx => ⟨x, by omega, hx.2⟩) ?_
      exact zs_vret dX13_minute_192 rfl ⟨rfl, _, rfl⟩
    · have hwet := c_3
      refine zs_aload_n dX13_minute_43 rfl rfl ?_
      refine zs_get 0 dX13_minute_44 zf_RX13_108 rfl (v := .ref (e 65)) rfl ?_
      refine zs_iload_n dX13_minute_47 rfl ?_
      refine zs_iconst (v := nI 0) dX13_minute_48 (by decide) ?_
      refine zs_iast 3 dX13_minute_49 rfl (vp_in_nI (by omega) (by omega)) ?_
      rw [nI_c (n := k) (by omega)]
      show zS _ _ _ _ _ _ [(mo, .inr (11, fMo e g w)), ((e 14), .inl (0, 800, .inl nw)), ((e 64), .inl (0, 64, .inl (s.1))), ((e 65), .inl (0, 64, .inl (upd (s.2.2) k (nI 0)))), ((e 66), .inl (0, 64, .inl (upd (s.2.1) k (((s.2.1) k) + (nI u))))), ((e 67), .inl (0, 64, .inl he))]
      have hW : (upd (s.2.1) k (((s.2.1) k) + (nI u))) = (mW (D.1 14) (D.1 15) s (nI k) (nI u)) := (pWe_k hck h64).symm
      have hB : (upd (s.2.2) k (nI 0)) = (mB (D.1 14) (D.1 15) s (nI k) (nI u)) := by
        have hq : (upd (s.2.2) k (nI 0)) = (pBu (D.1 14 * D.1 15) s.1 (upd (s.2.1) k (((s.2.1) k) + (nI u))) s.2.2 (nI k)) := ((pBu_k hck h64).trans ((if_neg hon).trans (if_neg hwet))).symm
        rw [hq]; exact congrArg (fun z => pBu (D.1 14 * D.1 15) s.1 z s.2.2 (nI k)) hW
      refine zs_eq (K' := [(mo, .inr (11, fMo e g w)), ((e 14), .inl (0, 800, .inl nw)), ((e 64), .inl (0, 64, .inl (s.1))), ((e 65), .inl (0, 64, .inl (mB (D.1 14) (D.1 15) s (nI k) (nI u)))), ((e 66), .inl (0, 64, .inl (mW (D.1 14) (D.1 15) s (nI k) (nI u)))), ((e 67), .inl (0, 64, .inl he))]) (by rw [hB, hW]) ?_
      refine zs_lv [0] rfl ?_
      refine mm_50 mo e g w nw D (s.1) (mW (D.1 14) (D.1 15) s (nI k) (nI u)) (mB (D.1 14) (D.1 15) s (nI k) (nI u)) he hd hR hC hRo (fB_bu hs.1 h64 hcc) (fun k hk => (pWe_b (u := u) hs.2 h64 hcc k hk).elim fun x hx => ⟨x, by omega, hx.2⟩) ?_
      exact zs_vret dX13_minute_192 rfl ⟨rfl, _, rfl⟩
theorem s_mMinute (l : Launch) (dd : Nat) (mo : Nat) (e : Nat → Nat) (g : Nat → Int32) (w : Int64) (nw : Nat → Int32) (D : zYd) (s : zFs) (he : Nat → Int32) (V u : Nat) (c : Int32) (hd : 3 ≤ dd) (hR : yR D nw) (hC : D.1 14 ≤ 8) (hRo : D.1 15 ≤ 8) (hs : fK (D.1 14 * D.1 15) V s) (hV : V + u < 2147483648) (hc : aC (D.1 14 * D.1 15) c) : zSp l mX13_minute dd 0 0 [.ref mo, .int c, .int (nI u)] [(mo, .inr (11, fMo e g w)), ((e 14), .inl (0, 800, .inl nw)), ((e 64), .inl (0, 64, .inl (s.1))), ((e 65), .inl (0, 64, .inl (s.2.2))), ((e 66), .inl (0, 64, .inl (s.2.1))), ((e 67), .inl (0, 64, .inl he))] (fun r K' => r = none ∧ ∃ (he' : Nat → Int32), K' = [(mo, .inr (11, fMo e (upd g 70 (g 70 + mLs (D.1 14) (D.1 15) s c (nI u))) w)), ((e 14), .inl (0, 800, .inl nw)), ((e 64), .inl (0, 64, .inl ((mMin (D.1 14) (D.1 15) D.2.1 s c (nI u)).1))), ((e 65), .inl (0, 64, .inl ((mMin (D.1 14) (D.1 15) D.2.1 s c (nI u)).2.2))), ((e 66), .inl (0, 64, .inl ((mMin (D.1 14) (D.1 15) D.2.1 s c (nI u)).2.1))), ((e 67), .inl (0, 64, .inl (he')))]) := by
  rcases hc with rfl | ⟨k, hk, rfl⟩
  · exact s_mMin1 l dd mo e g w nw D s he V u hd hR hC hRo hs hV
  · exact s_mMin2 l dd mo e g w nw D s he V u k hd hR hC hRo hs hV hk
