/-! ===== PailRow.Fire: a minute, the aims, beginning, copying ===== -/
/-- new before place k, old from it on -/
def pCl (new old : Nat → Int32) (k : Nat) : Nat → Int32 := fun j => if j < k then new j else old j
theorem pCl_0 (new old : Nat → Int32) : pCl new old 0 = old := by funext j; simp [pCl]
theorem pCl_at (new old : Nat → Int32) (k : Nat) : pCl new old k k = old k := by simp [pCl]
theorem pCl_s (new old : Nat → Int32) (k : Nat) : upd (pCl new old k) k (new k) = pCl new old (k + 1) := by
  funext j
  simp only [upd, pCl]
  by_cases h : j = k
  · subst h; simp
  · by_cases h2 : j < k
    · simp [h, h2, Nat.lt_succ_of_lt h2]
    · simp [h, h2, show ¬ j < k + 1 by omega]
theorem pCl_k {new old : Nat → Int32} {k : Nat} (h : new k = old k) : pCl new old k = pCl new old (k + 1) := by
  rw [← pCl_s, h]
  funext j
  simp only [upd]
  by_cases hj : j = k
  · subst hj; rw [if_pos rfl, pCl_at]
  · rw [if_neg hj]
theorem pCl_u {new old : Nat → Int32} {k : Nat} {x : Int32} (h : new k = x) : upd (pCl new old k) k x = pCl new old (k + 1) := h ▸ pCl_s new old k
theorem upd_u (f : Nat → Int32) (k : Nat) (x y : Int32) : upd (upd f k x) k y = upd f k y := by
  funext j
  simp only [upd]
  split <;> rfl
def pCnt (f : Nat → Int32) : Nat → Int32
  | 0 => 0
  | k + 1 => if f k = 0 then pCnt f k else pCnt f k + 1
theorem pCnt_z {f : Nat → Int32} {k : Nat} (h : f k = 0) : pCnt f (k + 1) = pCnt f k := by simp only [pCnt, if_pos h]
theorem pCnt_s {f : Nat → Int32} {k : Nat} (h : ¬ f k = 0) : pCnt f (k + 1) = pCnt f k + 1 := by simp only [pCnt, if_neg h]
def nFu (fu bu : Nat → Int32) : Nat → Int32 := fun j => if bu j = 0 then fu j else fu j - 1
def nBu (fu bu he we : Nat → Int32) : Nat → Int32 := fun j => if bu j = 0 then (if fu j ≤ 0 then 0 else if he j < 5 + we j / 2 then 0 else 1) else (if fu j - 1 ≤ 0 then 0 else 1)
def pWe (n : Nat) (we : Nat → Int32) (c v : Int32) : Nat → Int32 := if c < 0 then we else if nI n ≤ c then we else upd we c.toNatClampNeg (we c.toNatClampNeg + v)
def pBu (n : Nat) (fu we bu : Nat → Int32) (c : Int32) : Nat → Int32 := if c < 0 then bu else if nI n ≤ c then bu else if bu c.toNatClampNeg = 0 then bu else if we c.toNatClampNeg < 10 * fu c.toNatClampNeg then bu else upd bu c.toNatClampNeg 0
theorem dX2_passMinute_0 : decode cX2_passMinute 0 = .ok (.iload_n 1, 1) := by decide +kernel
theorem dX2_passMinute_1 : decode cX2_passMinute 1 = .ok (.ifCond .lt 55, 3) := by decide +kernel
theorem dX2_passMinute_4 : decode cX2_passMinute 4 = .ok (.iload_n 1, 1) := by decide +kernel
theorem dX2_passMinute_5 : decode cX2_passMinute 5 = .ok (.aload_n 0, 1) := by decide +kernel
theorem dX2_passMinute_6 : decode cX2_passMinute 6 = .ok (.getfield 42, 3) := by decide +kernel
theorem dX2_passMinute_9 : decode cX2_passMinute 9 = .ok (.if_icmp .ge 47, 3) := by decide +kernel
theorem dX2_passMinute_12 : decode cX2_passMinute 12 = .ok (.aload_n 0, 1) := by decide +kernel
theorem dX2_passMinute_13 : decode cX2_passMinute 13 = .ok (.getfield 15, 3) := by decide +kernel
theorem dX2_passMinute_16 : decode cX2_passMinute 16 = .ok (.iload_n 1, 1) := by decide +kernel
theorem dX2_passMinute_17 : decode cX2_passMinute 17 = .ok (.dup2, 1) := by decide +kernel
theorem dX2_passMinute_18 : decode cX2_passMinute 18 = .ok (.iaload, 1) := by decide +kernel
theorem dX2_passMinute_19 : decode cX2_passMinute 19 = .ok (.iload_n 2, 1) := by decide +kernel
theorem dX2_passMinute_20 : decode cX2_passMinute 20 = .ok (.iadd, 1) := by decide +kernel
theorem dX2_passMinute_21 : decode cX2_passMinute 21 = .ok (.iastore, 1) := by decide +kernel
theorem dX2_passMinute_22 : decode cX2_passMinute 22 = .ok (.aload_n 0, 1) := by decide +kernel
theorem dX2_passMinute_23 : decode cX2_passMinute 23 = .ok (.getfield 18, 3) := by decide +kernel
theorem dX2_passMinute_26 : decode cX2_passMinute 26 = .ok (.iload_n 1, 1) := by decide +kernel
theorem dX2_passMinute_27 : decode cX2_passMinute 27 = .ok (.baload, 1) := by decide +kernel
theorem dX2_passMinute_28 : decode cX2_passMinute 28 = .ok (.ifCond .eq 28, 3) := by decide +kernel
theorem dX2_passMinute_31 : decode cX2_passMinute 31 = .ok (.aload_n 0, 1) := by decide +kernel
theorem dX2_passMinute_32 : decode cX2_passMinute 32 = .ok (.getfield 15, 3) := by decide +kernel
theorem dX2_passMinute_35 : decode cX2_passMinute 35 = .ok (.iload_n 1, 1) := by decide +kernel
theorem dX2_passMinute_36 : decode cX2_passMinute 36 = .ok (.iaload, 1) := by decide +kernel
theorem dX2_passMinute_37 : decode cX2_passMinute 37 = .ok (.bipush 10, 2) := by decide +kernel
theorem dX2_passMinute_39 : decode cX2_passMinute 39 = .ok (.aload_n 0, 1) := by decide +kernel
theorem dX2_passMinute_40 : decode cX2_passMinute 40 = .ok (.getfield 9, 3) := by decide +kernel
theorem dX2_passMinute_43 : decode cX2_passMinute 43 = .ok (.iload_n 1, 1) := by decide +kernel
theorem dX2_passMinute_44 : decode cX2_passMinute 44 = .ok (.iaload, 1) := by decide +kernel
theorem dX2_passMinute_45 : decode cX2_passMinute 45 = .ok (.imul, 1) := by decide +kernel
theorem dX2_passMinute_46 : decode cX2_passMinute 46 = .ok (.if_icmp .lt 10, 3) := by decide +kernel
theorem dX2_passMinute_49 : decode cX2_passMinute 49 = .ok (.aload_n 0, 1) := by decide +kernel
theorem dX2_passMinute_50 : decode cX2_passMinute 50 = .ok (.getfield 18, 3) := by decide +kernel
theorem dX2_passMinute_53 : decode cX2_passMinute 53 = .ok (.iload_n 1, 1) := by decide +kernel
theorem dX2_passMinute_54 : decode cX2_passMinute 54 = .ok (.iconst 0, 1) := by decide +kernel
theorem dX2_passMinute_55 : decode cX2_passMinute 55 = .ok (.bastore, 1) := by decide +kernel
theorem dX2_passMinute_56 : decode cX2_passMinute 56 = .ok (.aload_n 0, 1) := by decide +kernel
theorem dX2_passMinute_57 : decode cX2_passMinute 57 = .ok (.invokevirtual 71, 3) := by decide +kernel
theorem dX2_passMinute_60 : decode cX2_passMinute 60 = .ok (.aload_n 0, 1) := by decide +kernel
theorem dX2_passMinute_61 : decode cX2_passMinute 61 = .ok (.iconst 0, 1) := by decide +kernel
theorem dX2_passMinute_62 : decode cX2_passMinute 62 = .ok (.putfield 49, 3) := by decide +kernel
theorem dX2_passMinute_65 : decode cX2_passMinute 65 = .ok (.iconst 0, 1) := by decide +kernel
theorem dX2_passMinute_66 : decode cX2_passMinute 66 = .ok (.istore_n 3, 1) := by decide +kernel
theorem dX2_passMinute_67 : decode cX2_passMinute 67 = .ok (.iload_n 3, 1) := by decide +kernel
theorem dX2_passMinute_68 : decode cX2_passMinute 68 = .ok (.aload_n 0, 1) := by decide +kernel
theorem dX2_passMinute_69 : decode cX2_passMinute 69 = .ok (.getfield 42, 3) := by decide +kernel
theorem dX2_passMinute_72 : decode cX2_passMinute 72 = .ok (.if_icmp .ge 119, 3) := by decide +kernel
theorem dX2_passMinute_75 : decode cX2_passMinute 75 = .ok (.aload_n 0, 1) := by decide +kernel
theorem dX2_passMinute_76 : decode cX2_passMinute 76 = .ok (.getfield 18, 3) := by decide +kernel
theorem dX2_passMinute_79 : decode cX2_passMinute 79 = .ok (.iload_n 3, 1) := by decide +kernel
theorem dX2_passMinute_80 : decode cX2_passMinute 80 = .ok (.baload, 1) := by decide +kernel
theorem dX2_passMinute_81 : decode cX2_passMinute 81 = .ok (.ifCond .eq 46, 3) := by decide +kernel
theorem dX2_passMinute_84 : decode cX2_passMinute 84 = .ok (.aload_n 0, 1) := by decide +kernel
theorem dX2_passMinute_85 : decode cX2_passMinute 85 = .ok (.getfield 9, 3) := by decide +kernel
theorem dX2_passMinute_88 : decode cX2_passMinute 88 = .ok (.iload_n 3, 1) := by decide +kernel
theorem dX2_passMinute_89 : decode cX2_passMinute 89 = .ok (.dup2, 1) := by decide +kernel
theorem dX2_passMinute_90 : decode cX2_passMinute 90 = .ok (.iaload, 1) := by decide +kernel
theorem dX2_passMinute_91 : decode cX2_passMinute 91 = .ok (.iconst 1, 1) := by decide +kernel
theorem dX2_passMinute_92 : decode cX2_passMinute 92 = .ok (.isub, 1) := by decide +kernel
theorem dX2_passMinute_93 : decode cX2_passMinute 93 = .ok (.iastore, 1) := by decide +kernel
theorem dX2_passMinute_94 : decode cX2_passMinute 94 = .ok (.aload_n 0, 1) := by decide +kernel
theorem dX2_passMinute_95 : decode cX2_passMinute 95 = .ok (.dup, 1) := by decide +kernel
theorem dX2_passMinute_96 : decode cX2_passMinute 96 = .ok (.getfield 54, 3) := by decide +kernel
theorem dX2_passMinute_99 : decode cX2_passMinute 99 = .ok (.iconst 1, 1) := by decide +kernel
theorem dX2_passMinute_100 : decode cX2_passMinute 100 = .ok (.iadd, 1) := by decide +kernel
theorem dX2_passMinute_101 : decode cX2_passMinute 101 = .ok (.putfield 54, 3) := by decide +kernel
theorem dX2_passMinute_104 : decode cX2_passMinute 104 = .ok (.aload_n 0, 1) := by decide +kernel
theorem dX2_passMinute_105 : decode cX2_passMinute 105 = .ok (.getfield 18, 3) := by decide +kernel
theorem dX2_passMinute_108 : decode cX2_passMinute 108 = .ok (.iload_n 3, 1) := by decide +kernel
theorem dX2_passMinute_109 : decode cX2_passMinute 109 = .ok (.aload_n 0, 1) := by decide +kernel
theorem dX2_passMinute_110 : decode cX2_passMinute 110 = .ok (.getfield 9, 3) := by decide +kernel
theorem dX2_passMinute_113 : decode cX2_passMinute 113 = .ok (.iload_n 3, 1) := by decide +kernel
theorem dX2_passMinute_114 : decode cX2_passMinute 114 = .ok (.iaload, 1) := by decide +kernel
theorem dX2_passMinute_115 : decode cX2_passMinute 115 = .ok (.ifCond .le 7, 3) := by decide +kernel
theorem dX2_passMinute_118 : decode cX2_passMinute 118 = .ok (.iconst 1, 1) := by decide +kernel
theorem dX2_passMinute_119 : decode cX2_passMinute 119 = .ok (.goto 4, 3) := by decide +kernel
theorem dX2_passMinute_122 : decode cX2_passMinute 122 = .ok (.iconst 0, 1) := by decide +kernel
theorem dX2_passMinute_123 : decode cX2_passMinute 123 = .ok (.bastore, 1) := by decide +kernel
theorem dX2_passMinute_124 : decode cX2_passMinute 124 = .ok (.goto 42, 3) := by decide +kernel
theorem dX2_passMinute_127 : decode cX2_passMinute 127 = .ok (.aload_n 0, 1) := by decide +kernel
theorem dX2_passMinute_128 : decode cX2_passMinute 128 = .ok (.getfield 18, 3) := by decide +kernel
theorem dX2_passMinute_131 : decode cX2_passMinute 131 = .ok (.iload_n 3, 1) := by decide +kernel
theorem dX2_passMinute_132 : decode cX2_passMinute 132 = .ok (.aload_n 0, 1) := by decide +kernel
theorem dX2_passMinute_133 : decode cX2_passMinute 133 = .ok (.getfield 9, 3) := by decide +kernel
theorem dX2_passMinute_136 : decode cX2_passMinute 136 = .ok (.iload_n 3, 1) := by decide +kernel
theorem dX2_passMinute_137 : decode cX2_passMinute 137 = .ok (.iaload, 1) := by decide +kernel
theorem dX2_passMinute_138 : decode cX2_passMinute 138 = .ok (.ifCond .le 26, 3) := by decide +kernel
theorem dX2_passMinute_141 : decode cX2_passMinute 141 = .ok (.aload_n 0, 1) := by decide +kernel
theorem dX2_passMinute_142 : decode cX2_passMinute 142 = .ok (.getfield 22, 3) := by decide +kernel
theorem dX2_passMinute_145 : decode cX2_passMinute 145 = .ok (.iload_n 3, 1) := by decide +kernel
theorem dX2_passMinute_146 : decode cX2_passMinute 146 = .ok (.iaload, 1) := by decide +kernel
theorem dX2_passMinute_147 : decode cX2_passMinute 147 = .ok (.iconst 5, 1) := by decide +kernel
theorem dX2_passMinute_148 : decode cX2_passMinute 148 = .ok (.aload_n 0, 1) := by decide +kernel
theorem dX2_passMinute_149 : decode cX2_passMinute 149 = .ok (.getfield 15, 3) := by decide +kernel
theorem dX2_passMinute_152 : decode cX2_passMinute 152 = .ok (.iload_n 3, 1) := by decide +kernel
theorem dX2_passMinute_153 : decode cX2_passMinute 153 = .ok (.iaload, 1) := by decide +kernel
theorem dX2_passMinute_154 : decode cX2_passMinute 154 = .ok (.iconst 2, 1) := by decide +kernel
theorem dX2_passMinute_155 : decode cX2_passMinute 155 = .ok (.idiv, 1) := by decide +kernel
theorem dX2_passMinute_156 : decode cX2_passMinute 156 = .ok (.iadd, 1) := by decide +kernel
theorem dX2_passMinute_157 : decode cX2_passMinute 157 = .ok (.if_icmp .lt 7, 3) := by decide +kernel
theorem dX2_passMinute_160 : decode cX2_passMinute 160 = .ok (.iconst 1, 1) := by decide +kernel
theorem dX2_passMinute_161 : decode cX2_passMinute 161 = .ok (.goto 4, 3) := by decide +kernel
theorem dX2_passMinute_164 : decode cX2_passMinute 164 = .ok (.iconst 0, 1) := by decide +kernel
theorem dX2_passMinute_165 : decode cX2_passMinute 165 = .ok (.bastore, 1) := by decide +kernel
theorem dX2_passMinute_166 : decode cX2_passMinute 166 = .ok (.aload_n 0, 1) := by decide +kernel
theorem dX2_passMinute_167 : decode cX2_passMinute 167 = .ok (.getfield 18, 3) := by decide +kernel
theorem dX2_passMinute_170 : decode cX2_passMinute 170 = .ok (.iload_n 3, 1) := by decide +kernel
theorem dX2_passMinute_171 : decode cX2_passMinute 171 = .ok (.baload, 1) := by decide +kernel
theorem dX2_passMinute_172 : decode cX2_passMinute 172 = .ok (.ifCond .eq 13, 3) := by decide +kernel
theorem dX2_passMinute_175 : decode cX2_passMinute 175 = .ok (.aload_n 0, 1) := by decide +kernel
theorem dX2_passMinute_176 : decode cX2_passMinute 176 = .ok (.dup, 1) := by decide +kernel
theorem dX2_passMinute_177 : decode cX2_passMinute 177 = .ok (.getfield 49, 3) := by decide +kernel
theorem dX2_passMinute_180 : decode cX2_passMinute 180 = .ok (.iconst 1, 1) := by decide +kernel
theorem dX2_passMinute_181 : decode cX2_passMinute 181 = .ok (.iadd, 1) := by decide +kernel
theorem dX2_passMinute_182 : decode cX2_passMinute 182 = .ok (.putfield 49, 3) := by decide +kernel
theorem dX2_passMinute_185 : decode cX2_passMinute 185 = .ok (.iinc 3 1, 3) := by decide +kernel
theorem dX2_passMinute_188 : decode cX2_passMinute 188 = .ok (.goto (-121), 3) := by decide +kernel
theorem dX2_passMinute_191 : decode cX2_passMinute 191 = .ok (.return_, 1) := by decide +kernel
set_option maxRecDepth 100000 in
theorem lp_pm {l : Launch} {dd : Nat} {Po : zPo} {K0 : zK} {h0 : List va_E} {Xo : zK → Prop} {Gc : zG → Prop} (t : Nat) (ad : Nat → Nat) (n : Nat) (sc : Nat → Int32) (fu we bu he se : Nat → Int32) (hn : n ≤ 64) (hsc : sc 2 = nI n)
    (hk : zS (l, mX2_passMinute, dd, Po, K0, h0, Xo, Gc) 0 0 191 [(0, .ref t), (3, .int (nI n))] [] [(t, .inr (1, fFire ad (upd (upd sc 9 (pCnt (nBu fu bu he we) n)) 10 (sc 10 + pCnt bu n)))), (ad 1, .inl (0, 64, .inl (pCl (nFu fu bu) fu n))), (ad 2, .inl (0, 64, .inl we)), (ad 3, .inl (1, 64, .inl (pCl (nBu fu bu he we) bu n))), (ad 4, .inl (0, 64, .inl he)), (ad 5, .inl (0, 60, .inl se))]) :
    ∀ (m i : Nat) , i + m = n → zS (l, mX2_passMinute, dd, Po, K0, h0, Xo, Gc) 0 0 67 [(0, .ref t), (3, .int (nI i))] [] [(t, .inr (1, fFire ad (upd (upd sc 9 (pCnt (nBu fu bu he we) i)) 10 (sc 10 + pCnt bu i)))), (ad 1, .inl (0, 64, .inl (pCl (nFu fu bu) fu i))), (ad 2, .inl (0, 64, .inl we)), (ad 3, .inl (1, 64, .inl (pCl (nBu fu bu he we) bu i))), (ad 4, .inl (0, 64, .inl he)), (ad 5, .inl (0, 60, .inl se))] := by
  intro m
  induction m with
  | zero =>
    intro i hi
    have hin : i = n := by omega
    subst hin
    refine zs_iload_n dX2_passMinute_67 rfl ?_
    refine zs_aload_n dX2_passMinute_68 rfl rfl ?_
    refine zs_get 0 dX2_passMinute_69 zf_RX2_42 rfl (v := .int (sc 2)) rfl ?_
    refine zs_icmp_ge (tgt := 191) dX2_passMinute_72 (by decide) (fun c_1 => ?_) (fun c_1 => (c_1 (by rw [hsc]; exact Int32.le_refl _) : False).elim)
    exact hk
  | succ m ih =>
    intro i hi
    have hil : i < n := by omega
    refine zs_iload_n dX2_passMinute_67 rfl ?_
    refine zs_aload_n dX2_passMinute_68 rfl rfl ?_
    refine zs_get 0 dX2_passMinute_69 zf_RX2_42 rfl (v := .int (sc 2)) rfl ?_
    refine zs_icmp_ge (tgt := 191) dX2_passMinute_72 (by decide) (fun c_1 => (nI_ge hil (by omega) (hsc ▸ c_1) : False).elim) (fun c_1 => ?_)
    refine zs_aload_n dX2_passMinute_75 rfl rfl ?_
    refine zs_get 0 dX2_passMinute_76 zf_RX2_18 rfl (v := .ref (ad 3)) rfl ?_
    refine zs_iload_n dX2_passMinute_79 rfl ?_
    refine zs_zald 3 dX2_passMinute_80 rfl (vp_in_nI (by omega) (by omega)) ?_
    refine zs_as (y := bu i) (by rw [nI_c (by omega)]; exact pCl_at _ _ _) ?_
    refine zs_if_eq (tgt := 127) dX2_passMinute_81 (by decide) (fun c_2 => ?_) (fun c_2 => ?_)
    · have hb := c_2
      refine zs_aload_n dX2_passMinute_127 rfl rfl ?_
      refine zs_get 0 dX2_passMinute_128 zf_RX2_18 rfl (v := .ref (ad 3)) rfl ?_
      refine zs_iload_n dX2_passMinute_131 rfl ?_
      refine zs_aload_n dX2_passMinute_132 rfl rfl ?_
      refine zs_get 0 dX2_passMinute_133 zf_RX2_9 rfl (v := .ref (ad 1)) rfl ?_
      refine zs_iload_n dX2_passMinute_136 rfl ?_
      refine zs_iald 1 dX2_passMinute_137 rfl (vp_in_nI (by omega) (by omega)) ?_
      refine zs_as (y := fu i) (by rw [nI_c (by omega)]; exact pCl_at _ _ _) ?_
      refine zs_if_le (tgt := 164) dX2_passMinute_138 (by decide) (fun c_3 => ?_) (fun c_3 => ?_)
      · have hnb : (nBu fu bu he we) i = 0 := by unfold nBu; rw [if_pos hb, if_pos c_3]
        refine zs_iconst (v := 0) dX2_passMinute_164 (by decide) ?_
        refine zs_zast 3 dX2_passMinute_165 rfl (vp_in_nI (by omega) (by omega)) (by first | exact Or.inl rfl | exact Or.inr rfl | assumption) ?_
        show zS _ _ _ _ _ _ [(t, .inr (1, fFire ad (upd (upd sc 9 (pCnt (nBu fu bu he we) i)) 10 (sc 10 + pCnt bu i)))), (ad 1, .inl (0, 64, .inl (pCl (nFu fu bu) fu i))), (ad 2, .inl (0, 64, .inl we)), (ad 3, .inl (1, 64, .inl (upd (pCl (nBu fu bu he we) bu i) (nI i).toNatClampNeg 0))), (ad 4, .inl (0, 64, .inl he)), (ad 5, .inl (0, 60, .inl se))]
        rw [nI_c (n := i) (by omega)]
        refine zs_aload_n dX2_passMinute_166 rfl rfl ?_
        refine zs_get 0 dX2_passMinute_167 zf_RX2_18 rfl (v := .ref (ad 3)) rfl ?_
        refine zs_iload_n dX2_passMinute_170 rfl ?_
        refine zs_zald 3 dX2_passMinute_171 rfl (vp_in_nI (by omega) (by omega)) ?_
        refine zs_as (y := (nBu fu bu he we) i) (by rw [nI_c (by omega), upd_s]; exact hnb.symm) ?_
        refine zs_if_eq (tgt := 185) dX2_passMinute_172 (by decide) (fun c_4 => ?_) (fun c_4 => ?_)
        · refine zs_iinc (v := (nI (i + 1))) (lv' := [(3, .int (nI (i + 1))), (0, .ref t)]) dX2_passMinute_185 rfl (nI_s1 i) (Nat.le_of_ble_eq_true rfl) rfl ?_
          refine zs_goto (tgt := 67) dX2_passMinute_188 (by decide) ?_
          have hF : (pCl (nFu fu bu) fu i) = (pCl (nFu fu bu) fu (i + 1)) := by first | exact pCl_k (if_pos hb) | exact pCl_u (if_neg hb)
          have hB : (upd (pCl (nBu fu bu he we) bu i) i 0) = (pCl (nBu fu bu he we) bu (i + 1)) := pCl_u hnb
          rw [hF, hB]
          rw [show pCnt (nBu fu bu he we) i = pCnt (nBu fu bu he we) (i + 1) from (pCnt_z (by assumption)).symm]
          rw [show pCnt bu i = pCnt bu (i + 1) from (pCnt_z hb).symm]
          refine zs_lv [1, 0] rfl ?_
          exact ih (i + 1) (by omega)
        · refine zs_aload_n dX2_passMinute_175 rfl rfl ?_
          refine zs_dup dX2_passMinute_176 rfl ?_
          refine zs_get 0 dX2_passMinute_177 zf_RX2_49 rfl (v := .int (pCnt (nBu fu bu he we) i)) rfl ?_
          refine zs_iconst (v := 1) dX2_passMinute_180 (by decide) ?_
          refine zs_iadd dX2_passMinute_181 ?_
          refine zs_as (y := pCnt (nBu fu bu he we) (i + 1)) (by rw [pCnt_s (by assumption)]) ?_
          refine zs_put 0 dX2_passMinute_182 zf_RX2_49 rfl (Nat.le_of_ble_eq_true rfl) (zPv_i _) ?_
          show zS _ _ _ _ _ _ [(t, .inr (1, fFire ad (upd (upd sc 9 (pCnt (nBu fu bu he we) (i + 1))) 10 (sc 10 + pCnt bu i)))), (ad 1, .inl (0, 64, .inl (pCl (nFu fu bu) fu i))), (ad 2, .inl (0, 64, .inl we)), (ad 3, .inl (1, 64, .inl (upd (pCl (nBu fu bu he we) bu i) i 0))), (ad 4, .inl (0, 64, .inl he)), (ad 5, .inl (0, 60, .inl se))]
          refine zs_iinc (v := (nI (i + 1))) (lv' := [(3, .int (nI (i + 1))), (0, .ref t)]) dX2_passMinute_185 rfl (nI_s1 i) (Nat.le_of_ble_eq_true rfl) rfl ?_
          refine zs_goto (tgt := 67) dX2_passMinute_188 (by decide) ?_
          have hF : (pCl (nFu fu bu) fu i) = (pCl (nFu fu bu) fu (i + 1)) := by first | exact pCl_k (if_pos hb) | exact pCl_u (if_neg hb)
          have hB : (upd (pCl (nBu fu bu he we) bu i) i 0) = (pCl (nBu fu bu he we) bu (i + 1)) := pCl_u hnb
          rw [hF, hB]
          rw [show pCnt bu i = pCnt bu (i + 1) from (pCnt_z hb).symm]
          refine zs_lv [1, 0] rfl ?_
          exact ih (i + 1) (by omega)
      · have hf0 := c_3
        refine zs_aload_n dX2_passMinute_141 rfl rfl ?_
        refine zs_get 0 dX2_passMinute_142 zf_RX2_22 rfl (v := .ref (ad 4)) rfl ?_
        refine zs_iload_n dX2_passMinute_145 rfl ?_
        refine zs_iald 4 dX2_passMinute_146 rfl (vp_in_nI (by omega) (by omega)) ?_
        refine zs_as (y := he i) (by rw [nI_c (by omega)]) ?_
        refine zs_iconst (v := 5) dX2_passMinute_147 (by decide) ?_
        refine zs_aload_n dX2_passMinute_148 rfl rfl ?_
        refine zs_get 0 dX2_passMinute_149 zf_RX2_15 rfl (v := .ref (ad 2)) rfl ?_
        refine zs_iload_n dX2_passMinute_152 rfl ?_
        refine zs_iald 2 dX2_passMinute_153 rfl (vp_in_nI (by omega) (by omega)) ?_
        refine zs_as (y := we i) (by rw [nI_c (by omega)]) ?_
        refine zs_iconst (v := 2) dX2_passMinute_154 (by decide) ?_
        refine zs_idiv dX2_passMinute_155 (by decide) ?_
        refine zs_iadd dX2_passMinute_156 ?_
        refine zs_icmp_lt (tgt := 164) dX2_passMinute_157 (by decide) (fun c_5 => ?_) (fun c_5 => ?_)
        · have hnb : (nBu fu bu he we) i = 0 := by unfold nBu; rw [if_pos hb, if_neg hf0, if_pos c_5]
          refine zs_iconst (v := 0) dX2_passMinute_164 (by decide) ?_
          refine zs_zast 3 dX2_passMinute_165 rfl (vp_in_nI (by omega) (by omega)) (by first | exact Or.inl rfl | exact Or.inr rfl | assumption) ?_
          show zS _ _ _ _ _ _ [(t, .inr (1, fFire ad (upd (upd sc 9 (pCnt (nBu fu bu he we) i)) 10 (sc 10 + pCnt bu i)))), (ad 1, .inl (0, 64, .inl (pCl (nFu fu bu) fu i))), (ad 2, .inl (0, 64, .inl we)), (ad 3, .inl (1, 64, .inl (upd (pCl (nBu fu bu he we) bu i) (nI i).toNatClampNeg 0))), (ad 4, .inl (0, 64, .inl he)), (ad 5, .inl (0, 60, .inl se))]
          rw [nI_c (n := i) (by omega)]
          refine zs_aload_n dX2_passMinute_166 rfl rfl ?_
          refine zs_get 0 dX2_passMinute_167 zf_RX2_18 rfl (v := .ref (ad 3)) rfl ?_
          refine zs_iload_n dX2_passMinute_170 rfl ?_
          refine zs_zald 3 dX2_passMinute_171 rfl (vp_in_nI (by omega) (by omega)) ?_
          refine zs_as (y := (nBu fu bu he we) i) (by rw [nI_c (by omega), upd_s]; exact hnb.symm) ?_
          refine zs_if_eq (tgt := 185) dX2_passMinute_172 (by decide) (fun c_6 => ?_) (fun c_6 => ?_)
          · refine zs_iinc (v := (nI (i + 1))) (lv' := [(3, .int (nI (i + 1))), (0, .ref t)]) dX2_passMinute_185 rfl (nI_s1 i) (Nat.le_of_ble_eq_true rfl) rfl ?_
            refine zs_goto (tgt := 67) dX2_passMinute_188 (by decide) ?_
            have hF : (pCl (nFu fu bu) fu i) = (pCl (nFu fu bu) fu (i + 1)) := by first | exact pCl_k (if_pos hb) | exact pCl_u (if_neg hb)
            have hB : (upd (pCl (nBu fu bu he we) bu i) i 0) = (pCl (nBu fu bu he we) bu (i + 1)) := pCl_u hnb
            rw [hF, hB]
            rw [show pCnt (nBu fu bu he we) i = pCnt (nBu fu bu he we) (i + 1) from (pCnt_z (by assumption)).symm]
            rw [show pCnt bu i = pCnt bu (i + 1) from (pCnt_z hb).symm]
            refine zs_lv [1, 0] rfl ?_
            exact ih (i + 1) (by omega)
          · refine zs_aload_n dX2_passMinute_175 rfl rfl ?_
            refine zs_dup dX2_passMinute_176 rfl ?_
            refine zs_get 0 dX2_passMinute_177 zf_RX2_49 rfl (v := .int (pCnt (nBu fu bu he we) i)) rfl ?_
            refine zs_iconst (v := 1) dX2_passMinute_180 (by decide) ?_
            refine zs_iadd dX2_passMinute_181 ?_
            refine zs_as (y := pCnt (nBu fu bu he we) (i + 1)) (by rw [pCnt_s (by assumption)]) ?_
            refine zs_put 0 dX2_passMinute_182 zf_RX2_49 rfl (Nat.le_of_ble_eq_true rfl) (zPv_i _) ?_
            show zS _ _ _ _ _ _ [(t, .inr (1, fFire ad (upd (upd sc 9 (pCnt (nBu fu bu he we) (i + 1))) 10 (sc 10 + pCnt bu i)))), (ad 1, .inl (0, 64, .inl (pCl (nFu fu bu) fu i))), (ad 2, .inl (0, 64, .inl we)), (ad 3, .inl (1, 64, .inl (upd (pCl (nBu fu bu he we) bu i) i 0))), (ad 4, .inl (0, 64, .inl he)), (ad 5, .inl (0, 60, .inl se))]
            refine zs_iinc (v := (nI (i + 1))) (lv' := [(3, .int (nI (i + 1))), (0, .ref t)]) dX2_passMinute_185 rfl (nI_s1 i) (Nat.le_of_ble_eq_true rfl) rfl ?_
            refine zs_goto (tgt := 67) dX2_passMinute_188 (by decide) ?_
            have hF : (pCl (nFu fu bu) fu i) = (pCl (nFu fu bu) fu (i + 1)) := by first | exact pCl_k (if_pos hb) | exact pCl_u (if_neg hb)
            have hB : (upd (pCl (nBu fu bu he we) bu i) i 0) = (pCl (nBu fu bu he we) bu (i + 1)) := pCl_u hnb
            rw [hF, hB]
            rw [show pCnt bu i = pCnt bu (i + 1) from (pCnt_z hb).symm]
            refine zs_lv [1, 0] rfl ?_
            exact ih (i + 1) (by omega)
        · have hnb : (nBu fu bu he we) i = 1 := by unfold nBu; rw [if_pos hb, if_neg hf0, if_neg c_5]
          refine zs_iconst (v := 1) dX2_passMinute_160 (by decide) ?_
          refine zs_goto (tgt := 165) dX2_passMinute_161 (by decide) ?_
          refine zs_zast 3 dX2_passMinute_165 rfl (vp_in_nI (by omega) (by omega)) (by first | exact Or.inl rfl | exact Or.inr rfl | assumption) ?_
          show zS _ _ _ _ _ _ [(t, .inr (1, fFire ad (upd (upd sc 9 (pCnt (nBu fu bu he we) i)) 10 (sc 10 + pCnt bu i)))), (ad 1, .inl (0, 64, .inl (pCl (nFu fu bu) fu i))), (ad 2, .inl (0, 64, .inl we)), (ad 3, .inl (1, 64, .inl (upd (pCl (nBu fu bu he we) bu i) (nI i).toNatClampNeg 1))), (ad 4, .inl (0, 64, .inl he)), (ad 5, .inl (0, 60, .inl se))]
          rw [nI_c (n := i) (by omega)]
          refine zs_aload_n dX2_passMinute_166 rfl rfl ?_
          refine zs_get 0 dX2_passMinute_167 zf_RX2_18 rfl (v := .ref (ad 3)) rfl ?_
          refine zs_iload_n dX2_passMinute_170 rfl ?_
          refine zs_zald 3 dX2_passMinute_171 rfl (vp_in_nI (by omega) (by omega)) ?_
          refine zs_as (y := (nBu fu bu he we) i) (by rw [nI_c (by omega), upd_s]; exact hnb.symm) ?_
          refine zs_if_eq (tgt := 185) dX2_passMinute_172 (by decide) (fun c_7 => ?_) (fun c_7 => ?_)
          · refine zs_iinc (v := (nI (i + 1))) (lv' := [(3, .int (nI (i + 1))), (0, .ref t)]) dX2_passMinute_185 rfl (nI_s1 i) (Nat.le_of_ble_eq_true rfl) rfl ?_
            refine zs_goto (tgt := 67) dX2_passMinute_188 (by decide) ?_
            have hF : (pCl (nFu fu bu) fu i) = (pCl (nFu fu bu) fu (i + 1)) := by first | exact pCl_k (if_pos hb) | exact pCl_u (if_neg hb)
            have hB : (upd (pCl (nBu fu bu he we) bu i) i 1) = (pCl (nBu fu bu he we) bu (i + 1)) := pCl_u hnb
            rw [hF, hB]
            rw [show pCnt (nBu fu bu he we) i = pCnt (nBu fu bu he we) (i + 1) from (pCnt_z (by assumption)).symm]
            rw [show pCnt bu i = pCnt bu (i + 1) from (pCnt_z hb).symm]
            refine zs_lv [1, 0] rfl ?_
            exact ih (i + 1) (by omega)
          · refine zs_aload_n dX2_passMinute_175 rfl rfl ?_
            refine zs_dup dX2_passMinute_176 rfl ?_
            refine zs_get 0 dX2_passMinute_177 zf_RX2_49 rfl (v := .int (pCnt (nBu fu bu he we) i)) rfl ?_
            refine zs_iconst (v := 1) dX2_passMinute_180 (by decide) ?_
            refine zs_iadd dX2_passMinute_181 ?_
            refine zs_as (y := pCnt (nBu fu bu he we) (i + 1)) (by rw [pCnt_s (by assumption)]) ?_
            refine zs_put 0 dX2_passMinute_182 zf_RX2_49 rfl (Nat.le_of_ble_eq_true rfl) (zPv_i _) ?_
            show zS _ _ _ _ _ _ [(t, .inr (1, fFire ad (upd (upd sc 9 (pCnt (nBu fu bu he we) (i + 1))) 10 (sc 10 + pCnt bu i)))), (ad 1, .inl (0, 64, .inl (pCl (nFu fu bu) fu i))), (ad 2, .inl (0, 64, .inl we)), (ad 3, .inl (1, 64, .inl (upd (pCl (nBu fu bu he we) bu i) i 1))), (ad 4, .inl (0, 64, .inl he)), (ad 5, .inl (0, 60, .inl se))]
            refine zs_iinc (v := (nI (i + 1))) (lv' := [(3, .int (nI (i + 1))), (0, .ref t)]) dX2_passMinute_185 rfl (nI_s1 i) (Nat.le_of_ble_eq_true rfl) rfl ?_
            refine zs_goto (tgt := 67) dX2_passMinute_188 (by decide) ?_
            have hF : (pCl (nFu fu bu) fu i) = (pCl (nFu fu bu) fu (i + 1)) := by first | exact pCl_k (if_pos hb) | exact pCl_u (if_neg hb)
            have hB : (upd (pCl (nBu fu bu he we) bu i) i 1) = (pCl (nBu fu bu he we) bu (i + 1)) := pCl_u hnb
            rw [hF, hB]
            rw [show pCnt bu i = pCnt bu (i + 1) from (pCnt_z hb).symm]
            refine zs_lv [1, 0] rfl ?_
            exact ih (i + 1) (by omega)
    · have hb := c_2
      refine zs_aload_n dX2_passMinute_84 rfl rfl ?_
      refine zs_get 0 dX2_passMinute_85 zf_RX2_9 rfl (v := .ref (ad 1)) rfl ?_
      refine zs_iload_n dX2_passMinute_88 rfl ?_
      refine zs_dup2 dX2_passMinute_89 rfl rfl ?_
      refine zs_iald 1 dX2_passMinute_90 rfl (vp_in_nI (by omega) (by omega)) ?_
      refine zs_as (y := fu i) (by rw [nI_c (by omega)]; exact pCl_at _ _ _) ?_
      refine zs_iconst (v := 1) dX2_passMinute_91 (by decide) ?_
      refine zs_isub dX2_passMinute_92 ?_
      refine zs_iast 1 dX2_passMinute_93 rfl (vp_in_nI (by omega) (by omega)) ?_
      show zS _ _ _ _ _ _ [(t, .inr (1, fFire ad (upd (upd sc 9 (pCnt (nBu fu bu he we) i)) 10 (sc 10 + pCnt bu i)))), (ad 1, .inl (0, 64, .inl (upd (pCl (nFu fu bu) fu i) (nI i).toNatClampNeg ((fu i) - 1)))), (ad 2, .inl (0, 64, .inl we)), (ad 3, .inl (1, 64, .inl (pCl (nBu fu bu he we) bu i))), (ad 4, .inl (0, 64, .inl he)), (ad 5, .inl (0, 60, .inl se))]
      rw [nI_c (n := i) (by omega)]
      refine zs_aload_n dX2_passMinute_94 rfl rfl ?_
      refine zs_dup dX2_passMinute_95 rfl ?_
      refine zs_get 0 dX2_passMinute_96 zf_RX2_54 rfl (v := .int (sc 10 + pCnt bu i)) rfl ?_
      refine zs_iconst (v := 1) dX2_passMinute_99 (by decide) ?_
      refine zs_iadd dX2_passMinute_100 ?_
      refine zs_as (y := sc 10 + pCnt bu (i + 1)) (by rw [pCnt_s hb]; exact Int32.add_assoc _ _ _) ?_
      refine zs_put 0 dX2_passMinute_101 zf_RX2_54 rfl (Nat.le_of_ble_eq_true rfl) (zPv_i _) ?_
      show zS _ _ _ _ _ _ [(t, .inr (1, fFire ad (upd (upd sc 9 (pCnt (nBu fu bu he we) i)) 10 (sc 10 + pCnt bu (i + 1))))), (ad 1, .inl (0, 64, .inl (upd (pCl (nFu fu bu) fu i) i ((fu i) - 1)))), (ad 2, .inl (0, 64, .inl we)), (ad 3, .inl (1, 64, .inl (pCl (nBu fu bu he we) bu i))), (ad 4, .inl (0, 64, .inl he)), (ad 5, .inl (0, 60, .inl se))]
      refine zs_aload_n dX2_passMinute_104 rfl rfl ?_
      refine zs_get 0 dX2_passMinute_105 zf_RX2_18 rfl (v := .ref (ad 3)) rfl ?_
      refine zs_iload_n dX2_passMinute_108 rfl ?_
      refine zs_aload_n dX2_passMinute_109 rfl rfl ?_
      refine zs_get 0 dX2_passMinute_110 zf_RX2_9 rfl (v := .ref (ad 1)) rfl ?_
      refine zs_iload_n dX2_passMinute_113 rfl ?_
      refine zs_iald 1 dX2_passMinute_114 rfl (vp_in_nI (by omega) (by omega)) ?_
      refine zs_as (y := fu i - 1) (by rw [nI_c (by omega), upd_s]) ?_
      refine zs_if_le (tgt := 122) dX2_passMinute_115 (by decide) (fun c_8 => ?_) (fun c_8 => ?_)
      · have hnb : (nBu fu bu he we) i = 0 := by unfold nBu; rw [if_neg hb, if_pos c_8]
        refine zs_iconst (v := 0) dX2_passMinute_122 (by decide) ?_
        refine zs_zast 3 dX2_passMinute_123 rfl (vp_in_nI (by omega) (by omega)) (by first | exact Or.inl rfl | exact Or.inr rfl | assumption) ?_
        show zS _ _ _ _ _ _ [(t, .inr (1, fFire ad (upd (upd sc 9 (pCnt (nBu fu bu he we) i)) 10 (sc 10 + pCnt bu (i + 1))))), (ad 1, .inl (0, 64, .inl (upd (pCl (nFu fu bu) fu i) i ((fu i) - 1)))), (ad 2, .inl (0, 64, .inl we)), (ad 3, .inl (1, 64, .inl (upd (pCl (nBu fu bu he we) bu i) (nI i).toNatClampNeg 0))), (ad 4, .inl (0, 64, .inl he)), (ad 5, .inl (0, 60, .inl se))]
        refine zs_goto (tgt := 166) dX2_passMinute_124 (by decide) ?_
        rw [nI_c (n := i) (by omega)]
        refine zs_aload_n dX2_passMinute_166 rfl rfl ?_
        refine zs_get 0 dX2_passMinute_167 zf_RX2_18 rfl (v := .ref (ad 3)) rfl ?_
        refine zs_iload_n dX2_passMinute_170 rfl ?_
        refine zs_zald 3 dX2_passMinute_171 rfl (vp_in_nI (by omega) (by omega)) ?_
        refine zs_as (y := (nBu fu bu he we) i) (by rw [nI_c (by omega), upd_s]; exact hnb.symm) ?_
        refine zs_if_eq (tgt := 185) dX2_passMinute_172 (by decide) (fun c_9 => ?_) (fun c_9 => ?_)
        · refine zs_iinc (v := (nI (i + 1))) (lv' := [(3, .int (nI (i + 1))), (0, .ref t)]) dX2_passMinute_185 rfl (nI_s1 i) (Nat.le_of_ble_eq_true rfl) rfl ?_
          refine zs_goto (tgt := 67) dX2_passMinute_188 (by decide) ?_
          have hF : (upd (pCl (nFu fu bu) fu i) i ((fu i) - 1)) = (pCl (nFu fu bu) fu (i + 1)) := by first | exact pCl_k (if_pos hb) | exact pCl_u (if_neg hb)
          have hB : (upd (pCl (nBu fu bu he we) bu i) i 0) = (pCl (nBu fu bu he we) bu (i + 1)) := pCl_u hnb
          rw [hF, hB]
          rw [show pCnt (nBu fu bu he we) i = pCnt (nBu fu bu he we) (i + 1) from (pCnt_z (by assumption)).symm]
          refine zs_lv [1, 0] rfl ?_
          exact ih (i + 1) (by omega)
        · refine zs_aload_n dX2_passMinute_175 rfl rfl ?_
          refine zs_dup dX2_passMinute_176 rfl ?_
          refine zs_get 0 dX2_passMinute_177 zf_RX2_49 rfl (v := .int (pCnt (nBu fu bu he we) i)) rfl ?_
          refine zs_iconst (v := 1) dX2_passMinute_180 (by decide) ?_
          refine zs_iadd dX2_passMinute_181 ?_
          refine zs_as (y := pCnt (nBu fu bu he we) (i + 1)) (by rw [pCnt_s (by assumption)]) ?_
          refine zs_put 0 dX2_passMinute_182 zf_RX2_49 rfl (Nat.le_of_ble_eq_true rfl) (zPv_i _) ?_
          show zS _ _ _ _ _ _ [(t, .inr (1, fFire ad (upd (upd sc 9 (pCnt (nBu fu bu he we) (i + 1))) 10 (sc 10 + pCnt bu (i + 1))))), (ad 1, .inl (0, 64, .inl (upd (pCl (nFu fu bu) fu i) i ((fu i) - 1)))), (ad 2, .inl (0, 64, .inl we)), (ad 3, .inl (1, 64, .inl (upd (pCl (nBu fu bu he we) bu i) i 0))), (ad 4, .inl (0, 64, .inl he)), (ad 5, .inl (0, 60, .inl se))]
          refine zs_iinc (v := (nI (i + 1))) (lv' := [(3, .int (nI (i + 1))), (0, .ref t)]) dX2_passMinute_185 rfl (nI_s1 i) (Nat.le_of_ble_eq_true rfl) rfl ?_
          refine zs_goto (tgt := 67) dX2_passMinute_188 (by decide) ?_
          have hF : (upd (pCl (nFu fu bu) fu i) i ((fu i) - 1)) = (pCl (nFu fu bu) fu (i + 1)) := by first | exact pCl_k (if_pos hb) | exact pCl_u (if_neg hb)
          have hB : (upd (pCl (nBu fu bu he we) bu i) i 0) = (pCl (nBu fu bu he we) bu (i + 1)) := pCl_u hnb
          rw [hF, hB]
          refine zs_lv [1, 0] rfl ?_
          exact ih (i + 1) (by omega)
      · have hnb : (nBu fu bu he we) i = 1 := by unfold nBu; rw [if_neg hb, if_neg c_8]
        refine zs_iconst (v := 1) dX2_passMinute_118 (by decide) ?_
        refine zs_goto (tgt := 123) dX2_passMinute_119 (by decide) ?_
        refine zs_zast 3 dX2_passMinute_123 rfl (vp_in_nI (by omega) (by omega)) (by first | exact Or.inl rfl | exact Or.inr rfl | assumption) ?_
        show zS _ _ _ _ _ _ [(t, .inr (1, fFire ad (upd (upd sc 9 (pCnt (nBu fu bu he we) i)) 10 (sc 10 + pCnt bu (i + 1))))), (ad 1, .inl (0, 64, .inl (upd (pCl (nFu fu bu) fu i) i ((fu i) - 1)))), (ad 2, .inl (0, 64, .inl we)), (ad 3, .inl (1, 64, .inl (upd (pCl (nBu fu bu he we) bu i) (nI i).toNatClampNeg 1))), (ad 4, .inl (0, 64, .inl he)), (ad 5, .inl (0, 60, .inl se))]
        refine zs_goto (tgt := 166) dX2_passMinute_124 (by decide) ?_
        rw [nI_c (n := i) (by omega)]
        refine zs_aload_n dX2_passMinute_166 rfl rfl ?_
        refine zs_get 0 dX2_passMinute_167 zf_RX2_18 rfl (v := .ref (ad 3)) rfl ?_
        refine zs_iload_n dX2_passMinute_170 rfl ?_
        refine zs_zald 3 dX2_passMinute_171 rfl (vp_in_nI (by omega) (by omega)) ?_
        refine zs_as (y := (nBu fu bu he we) i) (by rw [nI_c (by omega), upd_s]; exact hnb.symm) ?_
        refine zs_if_eq (tgt := 185) dX2_passMinute_172 (by decide) (fun c_10 => ?_) (fun c_10 => ?_)
        · refine zs_iinc (v := (nI (i + 1))) (lv' := [(3, .int (nI (i + 1))), (0, .ref t)]) dX2_passMinute_185 rfl (nI_s1 i) (Nat.le_of_ble_eq_true rfl) rfl ?_
          refine zs_goto (tgt := 67) dX2_passMinute_188 (by decide) ?_
          have hF : (upd (pCl (nFu fu bu) fu i) i ((fu i) - 1)) = (pCl (nFu fu bu) fu (i + 1)) := by first | exact pCl_k (if_pos hb) | exact pCl_u (if_neg hb)
          have hB : (upd (pCl (nBu fu bu he we) bu i) i 1) = (pCl (nBu fu bu he we) bu (i + 1)) := pCl_u hnb
          rw [hF, hB]
          rw [show pCnt (nBu fu bu he we) i = pCnt (nBu fu bu he we) (i + 1) from (pCnt_z (by assumption)).symm]
          refine zs_lv [1, 0] rfl ?_
          exact ih (i + 1) (by omega)
        · refine zs_aload_n dX2_passMinute_175 rfl rfl ?_
          refine zs_dup dX2_passMinute_176 rfl ?_
          refine zs_get 0 dX2_passMinute_177 zf_RX2_49 rfl (v := .int (pCnt (nBu fu bu he we) i)) rfl ?_
          refine zs_iconst (v := 1) dX2_passMinute_180 (by decide) ?_
          refine zs_iadd dX2_passMinute_181 ?_
          refine zs_as (y := pCnt (nBu fu bu he we) (i + 1)) (by rw [pCnt_s (by assumption)]) ?_
          refine zs_put 0 dX2_passMinute_182 zf_RX2_49 rfl (Nat.le_of_ble_eq_true rfl) (zPv_i _) ?_
          show zS _ _ _ _ _ _ [(t, .inr (1, fFire ad (upd (upd sc 9 (pCnt (nBu fu bu he we) (i + 1))) 10 (sc 10 + pCnt bu (i + 1))))), (ad 1, .inl (0, 64, .inl (upd (pCl (nFu fu bu) fu i) i ((fu i) - 1)))), (ad 2, .inl (0, 64, .inl we)), (ad 3, .inl (1, 64, .inl (upd (pCl (nBu fu bu he we) bu i) i 1))), (ad 4, .inl (0, 64, .inl he)), (ad 5, .inl (0, 60, .inl se))]
          refine zs_iinc (v := (nI (i + 1))) (lv' := [(3, .int (nI (i + 1))), (0, .ref t)]) dX2_passMinute_185 rfl (nI_s1 i) (Nat.le_of_ble_eq_true rfl) rfl ?_
          refine zs_goto (tgt := 67) dX2_passMinute_188 (by decide) ?_
          have hF : (upd (pCl (nFu fu bu) fu i) i ((fu i) - 1)) = (pCl (nFu fu bu) fu (i + 1)) := by first | exact pCl_k (if_pos hb) | exact pCl_u (if_neg hb)
          have hB : (upd (pCl (nBu fu bu he we) bu i) i 1) = (pCl (nBu fu bu he we) bu (i + 1)) := pCl_u hnb
          rw [hF, hB]
          refine zs_lv [1, 0] rfl ?_
          exact ih (i + 1) (by omega)
set_option maxRecDepth 100000 in
theorem pm_56 {l : Launch} {dd : Nat} {Po : zPo} {K0 : zK} {h0 : List va_E} {Xo : zK → Prop} {Gc : zG → Prop} (t : Nat) (ad : Nat → Nat) (C R : Nat) (sc : Nat → Int32) (fu we bu he se : Nat → Int32) (c v : Int32) (hd : 2 ≤ dd) (hR : R ≤ 64) (hn : C * R ≤ 64) (hs0 : sc 0 = nI C) (hs1 : sc 1 = nI R) (hsc : sc 2 = nI (C * R)) (hk : Po none (kFire t ad (upd (upd sc 9 (pCnt (nBu fu bu (pFeel C R (sc 3) fu bu he) we) (C * R))) 10 (sc 10 + pCnt bu (C * R))) (pCl (nFu fu bu) fu (C * R)) we (pCl (nBu fu bu (pFeel C R (sc 3) fu bu he) we) bu (C * R)) (pFeel C R (sc 3) fu bu he) se)) : zS (l, mX2_passMinute, dd, Po, K0, h0, Xo, Gc) 0 0 56 [(0, .ref t), (1, .int c), (2, .int v)] [] [(t, .inr (1, fFire ad sc)), (ad 1, .inl (0, 64, .inl fu)), (ad 2, .inl (0, 64, .inl we)), (ad 3, .inl (1, 64, .inl bu)), (ad 4, .inl (0, 64, .inl he)), (ad 5, .inl (0, 60, .inl se))] := by
  refine zs_aload_n dX2_passMinute_56 rfl rfl ?_
  refine zs_callV (M := mX2_feelHeat) (As := []) (st := []) (Kc := [(t, .inr (1, fFire ad sc)), (ad 1, .inl (0, 64, .inl fu)), (ad 2, .inl (0, 64, .inl we)), (ad 3, .inl (1, 64, .inl bu)), (ad 4, .inl (0, 64, .inl he)), (ad 5, .inl (0, 60, .inl se))]) (Kr := []) [0, 1, 2, 3, 4, 5] [] 0 dX2_passMinute_57 zl_RX2_71 kX2_feelHeat rfl rfl rfl rfl rfl (by decide) rfl rfl (show dd - 1 + 1 ≤ dd by omega) (Nat.zero_le _) (Nat.zero_le _) (Nat.le_of_ble_eq_true rfl) (s_feelHeat l (dd - 1) t ad C R sc fu we bu he se (by omega) hR hn hs0 hs1 hsc) (fun r K1 hr => ?_)
  obtain ⟨rfl, rfl⟩ := hr
  refine zs_K (K' := [(t, .inr (1, fFire ad sc)), (ad 1, .inl (0, 64, .inl fu)), (ad 2, .inl (0, 64, .inl we)), (ad 3, .inl (1, 64, .inl bu)), (ad 4, .inl (0, 64, .inl (pFeel C R (sc 3) fu bu he))), (ad 5, .inl (0, 60, .inl se))]) [0, 1, 2, 3, 4, 5] rfl (by decide) ?_
  refine zs_aload_n dX2_passMinute_60 rfl rfl ?_
  refine zs_iconst (v := 0) dX2_passMinute_61 (by decide) ?_
  refine zs_put 0 dX2_passMinute_62 zf_RX2_49 rfl (Nat.le_of_ble_eq_true rfl) (zPv_i _) ?_
  show zS _ _ _ _ _ _ [(t, .inr (1, fFire ad (upd sc 9 0))), (ad 1, .inl (0, 64, .inl fu)), (ad 2, .inl (0, 64, .inl we)), (ad 3, .inl (1, 64, .inl bu)), (ad 4, .inl (0, 64, .inl (pFeel C R (sc 3) fu bu he))), (ad 5, .inl (0, 60, .inl se))]
  refine zs_iconst (v := 0) dX2_passMinute_65 (by decide) ?_
  refine zs_istore_n (lv' := [(3, .int 0), (0, .ref t), (1, .int c), (2, .int v)]) dX2_passMinute_66 (Nat.le_of_ble_eq_true rfl) rfl ?_
  refine zs_lv [1, 0] rfl ?_
  have hh := lp_pm (l := l) (dd := dd) (Po := Po) (K0 := K0) (h0 := h0) (Xo := Xo) (Gc := Gc) t ad (C * R) sc fu we bu (pFeel C R (sc 3) fu bu he) se hn hsc ?_ (C * R) 0 (by omega)
  · rw [pCl_0, pCl_0, show fFire ad (upd (upd sc 9 (pCnt (nBu fu bu (pFeel C R (sc 3) fu bu he) we) 0)) 10 (sc 10 + pCnt bu 0)) = fFire ad (upd sc 9 0) from by simp only [pCnt, Int32.add_zero]; rfl] at hh
    exact hh
  · exact zs_vret dX2_passMinute_191 rfl hk
def mWe (n : Nat) (we : Nat → Int32) (c v : Int32) : Nat → Int32 := pWe n we c v
/-- a minute: c the place aimed at (below 0 or beyond: none), v the litres -/
abbrev kMin (t : Nat) (ad : Nat → Nat) (C R : Nat) (sc : Nat → Int32) (fu we bu he se : Nat → Int32) : zK := (kFire t ad (upd (upd sc 9 (pCnt (nBu fu bu (pFeel C R (sc 3) fu bu he) we) (C * R))) 10 (sc 10 + pCnt bu (C * R))) (pCl (nFu fu bu) fu (C * R)) we (pCl (nBu fu bu (pFeel C R (sc 3) fu bu he) we) bu (C * R)) (pFeel C R (sc 3) fu bu he) se)
set_option maxRecDepth 100000 in
theorem s_passMinute (l : Launch) (dd : Nat) (t : Nat) (ad : Nat → Nat) (C R : Nat) (sc : Nat → Int32) (fu we bu he se : Nat → Int32) (c v : Int32) (hd : 2 ≤ dd) (hR : R ≤ 64) (hn : C * R ≤ 64) (hs0 : sc 0 = nI C) (hs1 : sc 1 = nI R) (hsc : sc 2 = nI (C * R)) : zSp l mX2_passMinute dd 0 0 [.ref t, .int c, .int v] [(t, .inr (1, fFire ad sc)), (ad 1, .inl (0, 64, .inl fu)), (ad 2, .inl (0, 64, .inl we)), (ad 3, .inl (1, 64, .inl bu)), (ad 4, .inl (0, 64, .inl he)), (ad 5, .inl (0, 60, .inl se))] (fun r K' => r = none ∧ K' = kMin t ad C R sc fu (pWe (C * R) we c v) (pBu (C * R) fu (pWe (C * R) we c v) bu c) he se) := by
  refine zSp.of (by decide) (Nat.le_of_ble_eq_true rfl) (fun h0 => ?_)
  show zS _ 0 0 0 [(0, .ref t), (1, .int c), (2, .int v)] [] [(t, .inr (1, fFire ad sc)), (ad 1, .inl (0, 64, .inl fu)), (ad 2, .inl (0, 64, .inl we)), (ad 3, .inl (1, 64, .inl bu)), (ad 4, .inl (0, 64, .inl he)), (ad 5, .inl (0, 60, .inl se))]
  refine zs_iload_n dX2_passMinute_0 rfl ?_
  refine zs_if_lt (tgt := 56) dX2_passMinute_1 (by decide) (fun c_1 => ?_) (fun c_1 => ?_)
  · have e1 : pWe (C * R) we c v = we := by unfold pWe; simp only [if_pos c_1]
    have e2 : pBu (C * R) fu (pWe (C * R) we c v) bu c = bu := by rw [e1]; unfold pBu; simp only [if_pos c_1]
    refine pm_56 t ad C R sc fu we bu he se c v hd hR hn hs0 hs1 hsc ⟨rfl, ?_⟩
    rw [e2, e1]
  · refine zs_iload_n dX2_passMinute_4 rfl ?_
    refine zs_aload_n dX2_passMinute_5 rfl rfl ?_
    refine zs_get 0 dX2_passMinute_6 zf_RX2_42 rfl (v := .int (sc 2)) rfl ?_
    refine zs_icmp_ge (tgt := 56) dX2_passMinute_9 (by decide) (fun c_2 => ?_) (fun c_2 => ?_)
    · have c9 : nI (C * R) ≤ c := hsc ▸ c_2
      have e1 : pWe (C * R) we c v = we := by unfold pWe; simp only [if_neg c_1, if_pos c9]
      have e2 : pBu (C * R) fu (pWe (C * R) we c v) bu c = bu := by rw [e1]; unfold pBu; simp only [if_neg c_1, if_pos c9]
      refine pm_56 t ad C R sc fu we bu he se c v hd hR hn hs0 hs1 hsc ⟨rfl, ?_⟩
      rw [e2, e1]
    · have c9 : ¬ nI (C * R) ≤ c := hsc ▸ c_2
      have hcp : vp_in c 64 := by
        rw [vp_iff]
        rw [zi_le, nI_t (by omega)] at c9
        rw [zi_lt, Int32.toInt_zero] at c_1
        omega
      refine zs_aload_n dX2_passMinute_12 rfl rfl ?_
      refine zs_get 0 dX2_passMinute_13 zf_RX2_15 rfl (v := .ref (ad 2)) rfl ?_
      refine zs_iload_n dX2_passMinute_16 rfl ?_
      refine zs_dup2 dX2_passMinute_17 rfl rfl ?_
      refine zs_iald 2 dX2_passMinute_18 rfl hcp ?_
      refine zs_iload_n dX2_passMinute_19 rfl ?_
      refine zs_iadd dX2_passMinute_20 ?_
      refine zs_iast 2 dX2_passMinute_21 rfl hcp ?_
      show zS _ _ _ _ _ _ [(t, .inr (1, fFire ad sc)), (ad 1, .inl (0, 64, .inl fu)), (ad 2, .inl (0, 64, .inl (upd we c.toNatClampNeg ((we c.toNatClampNeg) + v)))), (ad 3, .inl (1, 64, .inl bu)), (ad 4, .inl (0, 64, .inl he)), (ad 5, .inl (0, 60, .inl se))]
      refine zs_aload_n dX2_passMinute_22 rfl rfl ?_
      refine zs_get 0 dX2_passMinute_23 zf_RX2_18 rfl (v := .ref (ad 3)) rfl ?_
      refine zs_iload_n dX2_passMinute_26 rfl ?_
      refine zs_zald 3 dX2_passMinute_27 rfl hcp ?_
      refine zs_if_eq (tgt := 56) dX2_passMinute_28 (by decide) (fun c_3 => ?_) (fun c_3 => ?_)
      · have c28 := c_3
        have e1 : pWe (C * R) we c v = (upd we c.toNatClampNeg ((we c.toNatClampNeg) + v)) := by unfold pWe; simp only [if_neg c_1, if_neg c9]
        have e2 : pBu (C * R) fu (pWe (C * R) we c v) bu c = bu := by rw [e1]; unfold pBu; simp only [if_neg c_1, if_neg c9, if_pos c28]
        refine pm_56 t ad C R sc fu (upd we c.toNatClampNeg ((we c.toNatClampNeg) + v)) bu he se c v hd hR hn hs0 hs1 hsc ⟨rfl, ?_⟩
        rw [e2, e1]
      · have c28 := c_3
        refine zs_aload_n dX2_passMinute_31 rfl rfl ?_
        refine zs_get 0 dX2_passMinute_32 zf_RX2_15 rfl (v := .ref (ad 2)) rfl ?_
        refine zs_iload_n dX2_passMinute_35 rfl ?_
        refine zs_iald 2 dX2_passMinute_36 rfl hcp ?_
        refine zs_bipush (v := 10) dX2_passMinute_37 (by decide) ?_
        refine zs_aload_n dX2_passMinute_39 rfl rfl ?_
        refine zs_get 0 dX2_passMinute_40 zf_RX2_9 rfl (v := .ref (ad 1)) rfl ?_
        refine zs_iload_n dX2_passMinute_43 rfl ?_
        refine zs_iald 1 dX2_passMinute_44 rfl hcp ?_
        refine zs_imul dX2_passMinute_45 ?_
        refine zs_icmp_lt (tgt := 56) dX2_passMinute_46 (by decide) (fun c_4 => ?_) (fun c_4 => ?_)
        · have c46 := c_4
          have e1 : pWe (C * R) we c v = (upd we c.toNatClampNeg ((we c.toNatClampNeg) + v)) := by unfold pWe; simp only [if_neg c_1, if_neg c9]
          have e2 : pBu (C * R) fu (pWe (C * R) we c v) bu c = bu := by rw [e1]; unfold pBu; simp only [if_neg c_1, if_neg c9, if_neg c28, if_pos c46]
          refine pm_56 t ad C R sc fu (upd we c.toNatClampNeg ((we c.toNatClampNeg) + v)) bu he se c v hd hR hn hs0 hs1 hsc ⟨rfl, ?_⟩
          rw [e2, e1]
        · have c46 := c_4
          refine zs_aload_n dX2_passMinute_49 rfl rfl ?_
          refine zs_get 0 dX2_passMinute_50 zf_RX2_18 rfl (v := .ref (ad 3)) rfl ?_
          refine zs_iload_n dX2_passMinute_53 rfl ?_
          refine zs_iconst (v := 0) dX2_passMinute_54 (by decide) ?_
          refine zs_zast 3 dX2_passMinute_55 rfl hcp (by first | exact Or.inl rfl | exact Or.inr rfl | assumption) ?_
          show zS _ _ _ _ _ _ [(t, .inr (1, fFire ad sc)), (ad 1, .inl (0, 64, .inl fu)), (ad 2, .inl (0, 64, .inl (upd we c.toNatClampNeg ((we c.toNatClampNeg) + v)))), (ad 3, .inl (1, 64, .inl (upd bu c.toNatClampNeg 0))), (ad 4, .inl (0, 64, .inl he)), (ad 5, .inl (0, 60, .inl se))]
          have e1 : pWe (C * R) we c v = (upd we c.toNatClampNeg ((we c.toNatClampNeg) + v)) := by unfold pWe; simp only [if_neg c_1, if_neg c9]
          have e2 : pBu (C * R) fu (pWe (C * R) we c v) bu c = (upd bu c.toNatClampNeg 0) := by rw [e1]; unfold pBu; simp only [if_neg c_1, if_neg c9, if_neg c28, if_neg c46]
          refine pm_56 t ad C R sc fu (upd we c.toNatClampNeg ((we c.toNatClampNeg) + v)) (upd bu c.toNatClampNeg 0) he se c v hd hR hn hs0 hs1 hsc ⟨rfl, ?_⟩
          rw [e2, e1]
