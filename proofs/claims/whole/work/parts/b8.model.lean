/-! ===== the reference: row() ===== -/
theorem cHp_le {N : Nat → Nat} {b n : Nat} (h : ∀ p, p < n → N p ≤ b) : ∀ k, k ≤ n → (cHp N k).2 ≤ b ∧ (cHp N k).1 ≤ k
  | 0, _ => ⟨Nat.zero_le _, Nat.le_refl _⟩
  | k + 1, hk => by
    have ih := cHp_le h k (by omega)
    rw [cHp]
    split
    · exact ⟨Nat.zero_le _, Nat.zero_le _⟩
    · split
      · exact ⟨h k (by omega), Nat.le_succ _⟩
      · exact ⟨ih.1, by omega⟩
theorem cHp_c {N N' : Nat → Nat} : ∀ n, (∀ p, p < n → N p = N' p) → cHp N n = cHp N' n
  | 0, _ => rfl
  | n + 1, h => by
    rw [cHp, cHp, cHp_c n (fun p hp => h p (by omega)), h n (by omega)]
theorem cSta_90 {hold p : Nat} {pww : Nat → Nat} {s : zRs} : (cSta hold pww s p).2 9 0 = s.2 9 0 := by
  unfold cSta
  split
  · split
    · rfl
    · split <;> rfl
  · split <;> rfl
theorem cFin_90 {back spill p : Nat} {s : zRs} : (cFin back spill s p).2 9 0 = s.2 9 0 := by
  unfold cFin
  split
  · rfl
  · split <;> rfl
theorem cPa_90 {back spill p : Nat} {s : zRs} : (cPa back spill s p).2 9 0 = s.2 9 0 := by
  unfold cPa
  split
  · rfl
  · split
    · exact cFin_90
    · rfl
theorem cPl_90 {back spill hold p : Nat} {pww : Nat → Nat} {s : zRs} : (cPl back spill hold pww s p).2 9 0 = s.2 9 0 := by
  unfold cPl
  split
  · exact cSta_90.trans cPa_90
  · exact cPa_90
theorem cDn_90 {back spill hold : Nat} {pww : Nat → Nat} : ∀ (k : Nat) (s : zRs), (cDn back spill hold pww k s).2 9 0 = s.2 9 0
  | 0, _ => rfl
  | k + 1, s => (cDn_90 k _).trans cPl_90
theorem cMo_90 {s : zRs} : ∀ k, cMo s k 0 = s.2 9 0
  | 0 => rfl
  | k + 1 => by
    rw [cMo]
    split
    · rfl
    · rename_i h
      rw [un_n (fun q => h q.symm)]
      exact cMo_90 k
theorem cWork_90 {back spill hold : Nat} {pww : Nat → Nat} {s : zRs} : ∀ n, (cWork back spill hold pww n s).2 9 0 = s.2 9 0
  | 0 => rfl
  | n + 1 => by
    refine Eq.trans ?_ (cWork_90 (back := back) (spill := spill) (hold := hold) (pww := pww) (s := s) n)
    show cMo (cDn back spill hold pww ((cWork back spill hold pww n s).1 1) (cT0 (cWork back spill hold pww n s))) _ 0 = (cWork back spill hold pww n s).2 9 0
    rw [cMo_90, cDn_90]
    rfl
/-- what a row came to, as the reference keeps it -/
def mRw (s : zRs) (rb rd : Nat → Int32) (many : Int32) : Prop := many = nI (s.1 1) ∧ (∀ j, j < 6 → rb j = rBy s (nI j)) ∧ ∀ p, p < s.1 1 → rd p = nI (s.2 5 p)
theorem dX13_row_0 : decode cX13_row 0 = .ok (.aload_n 0, 1) := by decide +kernel
theorem dX13_row_1 : decode cX13_row 1 = .ok (.iconst 0, 1) := by decide +kernel
theorem dX13_row_2 : decode cX13_row 2 = .ok (.putfield 148, 3) := by decide +kernel
theorem dX13_row_5 : decode cX13_row 5 = .ok (.aload_n 0, 1) := by decide +kernel
theorem dX13_row_6 : decode cX13_row 6 = .ok (.iconst 2, 1) := by decide +kernel
theorem dX13_row_7 : decode cX13_row 7 = .ok (.bipush 12, 2) := by decide +kernel
theorem dX13_row_9 : decode cX13_row 9 = .ok (.iconst 1, 1) := by decide +kernel
theorem dX13_row_10 : decode cX13_row 10 = .ok (.invokevirtual 372, 3) := by decide +kernel
theorem dX13_row_13 : decode cX13_row 13 = .ok (.ifCond .eq 14, 3) := by decide +kernel
theorem dX13_row_16 : decode cX13_row 16 = .ok (.iload_n 1, 1) := by decide +kernel
theorem dX13_row_17 : decode cX13_row 17 = .ok (.iconst 0, 1) := by decide +kernel
theorem dX13_row_18 : decode cX13_row 18 = .ok (.sipush 3600, 3) := by decide +kernel
theorem dX13_row_21 : decode cX13_row 21 = .ok (.invokestatic 219, 3) := by decide +kernel
theorem dX13_row_24 : decode cX13_row 24 = .ok (.ifCond .ne 5, 3) := by decide +kernel
theorem dX13_row_27 : decode cX13_row 27 = .ok (.iconst (-1), 1) := by decide +kernel
theorem dX13_row_28 : decode cX13_row 28 = .ok (.ireturn, 1) := by decide +kernel
theorem dX13_row_29 : decode cX13_row 29 = .ok (.aload_n 0, 1) := by decide +kernel
theorem dX13_row_30 : decode cX13_row 30 = .ok (.iconst 1, 1) := by decide +kernel
theorem dX13_row_31 : decode cX13_row 31 = .ok (.aload_n 0, 1) := by decide +kernel
theorem dX13_row_32 : decode cX13_row 32 = .ok (.getfield 304, 3) := by decide +kernel
theorem dX13_row_35 : decode cX13_row 35 = .ok (.aload_n 0, 1) := by decide +kernel
theorem dX13_row_36 : decode cX13_row 36 = .ok (.getfield 13, 3) := by decide +kernel
theorem dX13_row_39 : decode cX13_row 39 = .ok (.iconst 5, 1) := by decide +kernel
theorem dX13_row_40 : decode cX13_row 40 = .ok (.iaload, 1) := by decide +kernel
theorem dX13_row_41 : decode cX13_row 41 = .ok (.iload_n 1, 1) := by decide +kernel
theorem dX13_row_42 : decode cX13_row 42 = .ok (.invokevirtual 376, 3) := by decide +kernel
theorem dX13_row_45 : decode cX13_row 45 = .ok (.istore_n 2, 1) := by decide +kernel
theorem dX13_row_46 : decode cX13_row 46 = .ok (.iconst 0, 1) := by decide +kernel
theorem dX13_row_47 : decode cX13_row 47 = .ok (.istore_n 3, 1) := by decide +kernel
theorem dX13_row_48 : decode cX13_row 48 = .ok (.iconst 0, 1) := by decide +kernel
theorem dX13_row_49 : decode cX13_row 49 = .ok (.istore 4, 2) := by decide +kernel
theorem dX13_row_51 : decode cX13_row 51 = .ok (.iconst 0, 1) := by decide +kernel
theorem dX13_row_52 : decode cX13_row 52 = .ok (.istore 5, 2) := by decide +kernel
theorem dX13_row_54 : decode cX13_row 54 = .ok (.iconst 0, 1) := by decide +kernel
theorem dX13_row_55 : decode cX13_row 55 = .ok (.istore 6, 2) := by decide +kernel
theorem dX13_row_57 : decode cX13_row 57 = .ok (.iload 6, 2) := by decide +kernel
theorem dX13_row_59 : decode cX13_row 59 = .ok (.aload_n 0, 1) := by decide +kernel
theorem dX13_row_60 : decode cX13_row 60 = .ok (.getfield 304, 3) := by decide +kernel
theorem dX13_row_63 : decode cX13_row 63 = .ok (.if_icmp .ge 97, 3) := by decide +kernel
theorem dX13_row_66 : decode cX13_row 66 = .ok (.aload_n 0, 1) := by decide +kernel
theorem dX13_row_67 : decode cX13_row 67 = .ok (.getfield 57, 3) := by decide +kernel
theorem dX13_row_70 : decode cX13_row 70 = .ok (.iload 6, 2) := by decide +kernel
theorem dX13_row_72 : decode cX13_row 72 = .ok (.iaload, 1) := by decide +kernel
theorem dX13_row_73 : decode cX13_row 73 = .ok (.iload_n 3, 1) := by decide +kernel
theorem dX13_row_74 : decode cX13_row 74 = .ok (.if_icmp .le 15, 3) := by decide +kernel
theorem dX13_row_77 : decode cX13_row 77 = .ok (.aload_n 0, 1) := by decide +kernel
theorem dX13_row_78 : decode cX13_row 78 = .ok (.getfield 57, 3) := by decide +kernel
theorem dX13_row_81 : decode cX13_row 81 = .ok (.iload 6, 2) := by decide +kernel
theorem dX13_row_83 : decode cX13_row 83 = .ok (.iaload, 1) := by decide +kernel
theorem dX13_row_84 : decode cX13_row 84 = .ok (.istore_n 3, 1) := by decide +kernel
theorem dX13_row_85 : decode cX13_row 85 = .ok (.iload 6, 2) := by decide +kernel
theorem dX13_row_87 : decode cX13_row 87 = .ok (.istore 4, 2) := by decide +kernel
theorem dX13_row_89 : decode cX13_row 89 = .ok (.iload 5, 2) := by decide +kernel
theorem dX13_row_91 : decode cX13_row 91 = .ok (.aload_n 0, 1) := by decide +kernel
theorem dX13_row_92 : decode cX13_row 92 = .ok (.getfield 45, 3) := by decide +kernel
theorem dX13_row_95 : decode cX13_row 95 = .ok (.iload 6, 2) := by decide +kernel
theorem dX13_row_97 : decode cX13_row 97 = .ok (.iaload, 1) := by decide +kernel
theorem dX13_row_98 : decode cX13_row 98 = .ok (.iadd, 1) := by decide +kernel
theorem dX13_row_99 : decode cX13_row 99 = .ok (.istore 5, 2) := by decide +kernel
theorem dX13_row_101 : decode cX13_row 101 = .ok (.iconst 0, 1) := by decide +kernel
theorem dX13_row_102 : decode cX13_row 102 = .ok (.istore 7, 2) := by decide +kernel
theorem dX13_row_104 : decode cX13_row 104 = .ok (.iload 7, 2) := by decide +kernel
theorem dX13_row_106 : decode cX13_row 106 = .ok (.aload_n 0, 1) := by decide +kernel
theorem dX13_row_107 : decode cX13_row 107 = .ok (.getfield 54, 3) := by decide +kernel
theorem dX13_row_110 : decode cX13_row 110 = .ok (.iload 6, 2) := by decide +kernel
theorem dX13_row_112 : decode cX13_row 112 = .ok (.iaload, 1) := by decide +kernel
theorem dX13_row_113 : decode cX13_row 113 = .ok (.if_icmp .ge 27, 3) := by decide +kernel
theorem dX13_row_116 : decode cX13_row 116 = .ok (.iload 5, 2) := by decide +kernel
theorem dX13_row_118 : decode cX13_row 118 = .ok (.aload_n 0, 1) := by decide +kernel
theorem dX13_row_119 : decode cX13_row 119 = .ok (.getfield 51, 3) := by decide +kernel
theorem dX13_row_122 : decode cX13_row 122 = .ok (.bipush 30, 2) := by decide +kernel
theorem dX13_row_124 : decode cX13_row 124 = .ok (.iload 6, 2) := by decide +kernel
theorem dX13_row_126 : decode cX13_row 126 = .ok (.imul, 1) := by decide +kernel
theorem dX13_row_127 : decode cX13_row 127 = .ok (.iload 7, 2) := by decide +kernel
theorem dX13_row_129 : decode cX13_row 129 = .ok (.iadd, 1) := by decide +kernel
theorem dX13_row_130 : decode cX13_row 130 = .ok (.iaload, 1) := by decide +kernel
theorem dX13_row_131 : decode cX13_row 131 = .ok (.iadd, 1) := by decide +kernel
theorem dX13_row_132 : decode cX13_row 132 = .ok (.istore 5, 2) := by decide +kernel
theorem dX13_row_134 : decode cX13_row 134 = .ok (.iinc 7 1, 3) := by decide +kernel
theorem dX13_row_137 : decode cX13_row 137 = .ok (.goto (-33), 3) := by decide +kernel
theorem dX13_row_140 : decode cX13_row 140 = .ok (.aload_n 0, 1) := by decide +kernel
theorem dX13_row_141 : decode cX13_row 141 = .ok (.getfield 69, 3) := by decide +kernel
theorem dX13_row_144 : decode cX13_row 144 = .ok (.iload 6, 2) := by decide +kernel
theorem dX13_row_146 : decode cX13_row 146 = .ok (.aload_n 0, 1) := by decide +kernel
theorem dX13_row_147 : decode cX13_row 147 = .ok (.getfield 48, 3) := by decide +kernel
theorem dX13_row_150 : decode cX13_row 150 = .ok (.iload 6, 2) := by decide +kernel
theorem dX13_row_152 : decode cX13_row 152 = .ok (.iaload, 1) := by decide +kernel
theorem dX13_row_153 : decode cX13_row 153 = .ok (.iastore, 1) := by decide +kernel
theorem dX13_row_154 : decode cX13_row 154 = .ok (.iinc 6 1, 3) := by decide +kernel
theorem dX13_row_157 : decode cX13_row 157 = .ok (.goto (-100), 3) := by decide +kernel
theorem dX13_row_160 : decode cX13_row 160 = .ok (.aload_n 0, 1) := by decide +kernel
theorem dX13_row_161 : decode cX13_row 161 = .ok (.aload_n 0, 1) := by decide +kernel
theorem dX13_row_162 : decode cX13_row 162 = .ok (.getfield 304, 3) := by decide +kernel
theorem dX13_row_165 : decode cX13_row 165 = .ok (.putfield 380, 3) := by decide +kernel
theorem dX13_row_168 : decode cX13_row 168 = .ok (.aload_n 0, 1) := by decide +kernel
theorem dX13_row_169 : decode cX13_row 169 = .ok (.getfield 66, 3) := by decide +kernel
theorem dX13_row_172 : decode cX13_row 172 = .ok (.iconst 0, 1) := by decide +kernel
theorem dX13_row_173 : decode cX13_row 173 = .ok (.iload_n 3, 1) := by decide +kernel
theorem dX13_row_174 : decode cX13_row 174 = .ok (.iastore, 1) := by decide +kernel
theorem dX13_row_175 : decode cX13_row 175 = .ok (.aload_n 0, 1) := by decide +kernel
theorem dX13_row_176 : decode cX13_row 176 = .ok (.getfield 66, 3) := by decide +kernel
theorem dX13_row_179 : decode cX13_row 179 = .ok (.iconst 1, 1) := by decide +kernel
theorem dX13_row_180 : decode cX13_row 180 = .ok (.iload 4, 2) := by decide +kernel
theorem dX13_row_182 : decode cX13_row 182 = .ok (.iastore, 1) := by decide +kernel
theorem dX13_row_183 : decode cX13_row 183 = .ok (.aload_n 0, 1) := by decide +kernel
theorem dX13_row_184 : decode cX13_row 184 = .ok (.getfield 66, 3) := by decide +kernel
theorem dX13_row_187 : decode cX13_row 187 = .ok (.iconst 2, 1) := by decide +kernel
theorem dX13_row_188 : decode cX13_row 188 = .ok (.aload_n 0, 1) := by decide +kernel
theorem dX13_row_189 : decode cX13_row 189 = .ok (.getfield 325, 3) := by decide +kernel
theorem dX13_row_192 : decode cX13_row 192 = .ok (.iastore, 1) := by decide +kernel
theorem dX13_row_193 : decode cX13_row 193 = .ok (.aload_n 0, 1) := by decide +kernel
theorem dX13_row_194 : decode cX13_row 194 = .ok (.getfield 66, 3) := by decide +kernel
theorem dX13_row_197 : decode cX13_row 197 = .ok (.iconst 3, 1) := by decide +kernel
theorem dX13_row_198 : decode cX13_row 198 = .ok (.aload_n 0, 1) := by decide +kernel
theorem dX13_row_199 : decode cX13_row 199 = .ok (.getfield 319, 3) := by decide +kernel
theorem dX13_row_202 : decode cX13_row 202 = .ok (.iastore, 1) := by decide +kernel
theorem dX13_row_203 : decode cX13_row 203 = .ok (.aload_n 0, 1) := by decide +kernel
theorem dX13_row_204 : decode cX13_row 204 = .ok (.getfield 66, 3) := by decide +kernel
theorem dX13_row_207 : decode cX13_row 207 = .ok (.iconst 4, 1) := by decide +kernel
theorem dX13_row_208 : decode cX13_row 208 = .ok (.aload_n 0, 1) := by decide +kernel
theorem dX13_row_209 : decode cX13_row 209 = .ok (.getfield 322, 3) := by decide +kernel
theorem dX13_row_212 : decode cX13_row 212 = .ok (.iastore, 1) := by decide +kernel
theorem dX13_row_213 : decode cX13_row 213 = .ok (.aload_n 0, 1) := by decide +kernel
theorem dX13_row_214 : decode cX13_row 214 = .ok (.getfield 66, 3) := by decide +kernel
theorem dX13_row_217 : decode cX13_row 217 = .ok (.iconst 5, 1) := by decide +kernel
theorem dX13_row_218 : decode cX13_row 218 = .ok (.iload 5, 2) := by decide +kernel
theorem dX13_row_220 : decode cX13_row 220 = .ok (.iastore, 1) := by decide +kernel
theorem dX13_row_221 : decode cX13_row 221 = .ok (.iload_n 2, 1) := by decide +kernel
theorem dX13_row_222 : decode cX13_row 222 = .ok (.ireturn, 1) := by decide +kernel
set_option maxRecDepth 100000 in
theorem lp_row2 {l : Launch} {dd : Nat} {Po : zPo} {K0 : zK} {h0 : List va_E} {Xo : zK → Prop} {Gc : zG → Prop} (mo : Nat) (e : Nat → Nat) (g : Nat → Int32) (w : Int64) (nw : Nat → Int32) (M : zRs) (bt : Nat → Nat) (rb rd : Nat → Int32) (tk : Nat) (v : Int32) (n : Nat) (h33 : M.1 33 = n) (hn : 2 ≤ n ∧ n ≤ 12) (h29 : ∀ p, p < n → M.2 29 p ≤ 30) (h30 : ∀ p, p < n → M.2 30 p ≤ 30) (h30z : M.2 30 0 = 0) (k : Nat) (hkn : k < n) (hk : zS (l, mX13_row, dd, Po, K0, h0, Xo, Gc) 0 0 140 [(0, .ref mo), (1, .int (nI tk)), (2, .int v), (3, .int (nI (cHp (M.2 30) (k + 1)).2)), (4, .int (nI (cHp (M.2 30) (k + 1)).1)), (5, .int (nI ((nSum (gS M) k) + M.2 26 k + nSum (fun i => M.2 28 (30 * k + i)) (M.2 29 k)))), (6, .int (nI k))] [] [(mo, .inr (11, fMo e (mg g M.1) w)), ((e 14), .inl (0, 800, .inl nw)), ((e 24), .inl (0, 12, .inl (nF (M.2 24)))), ((e 25), .inl (0, 12, .inl (nF (M.2 25)))), ((e 26), .inl (0, 12, .inl (nF (M.2 26)))), ((e 27), .inl (0, 12, .inl (nF (M.2 27)))), ((e 28), .inl (0, 360, .inl (nF (M.2 28)))), ((e 29), .inl (0, 12, .inl (nF (M.2 29)))), ((e 30), .inl (0, 12, .inl (nF (M.2 30)))), ((e 31), .inl (0, 30, .inl (nF (M.2 31)))), ((e 32), .inl (0, 12, .inl (nF (M.2 32)))), ((e 1), .inl (0, 740, .inl (nF bt))), ((e 43), .inl (0, 6, .inl rb)), ((e 44), .inl (0, 12, .inl (pCl (nF (M.2 27)) rd k)))]) : ∀ (m i : Nat), i + m = M.2 29 k → zS (l, mX13_row, dd, Po, K0, h0, Xo, Gc) 0 0 104 [(0, .ref mo), (1, .int (nI tk)), (2, .int v), (3, .int (nI (cHp (M.2 30) (k + 1)).2)), (4, .int (nI (cHp (M.2 30) (k + 1)).1)), (5, .int (nI ((nSum (gS M) k) + M.2 26 k + nSum (fun i => M.2 28 (30 * k + i)) i))), (6, .int (nI k)), (7, .int (nI i))] [] [(mo, .inr (11, fMo e (mg g M.1) w)), ((e 14), .inl (0, 800, .inl nw)), ((e 24), .inl (0, 12, .inl (nF (M.2 24)))), ((e 25), .inl (0, 12, .inl (nF (M.2 25)))), ((e 26), .inl (0, 12, .inl (nF (M.2 26)))), ((e 27), .inl (0, 12, .inl (nF (M.2 27)))), ((e 28), .inl (0, 360, .inl (nF (M.2 28)))), ((e 29), .inl (0, 12, .inl (nF (M.2 29)))), ((e 30), .inl (0, 12, .inl (nF (M.2 30)))), ((e 31), .inl (0, 30, .inl (nF (M.2 31)))), ((e 32), .inl (0, 12, .inl (nF (M.2 32)))), ((e 1), .inl (0, 740, .inl (nF bt))), ((e 43), .inl (0, 6, .inl rb)), ((e 44), .inl (0, 12, .inl (pCl (nF (M.2 27)) rd k)))] := by
  have hq := h29 k hkn
  intro m
  induction m with
  | zero =>
    intro i hi
    refine zs_iload dX13_row_104 rfl ?_
    refine zs_aload_n dX13_row_106 rfl rfl ?_
    refine zs_get 0 dX13_row_107 zf_RX13_54 rfl (v := .ref (e 29)) rfl ?_
    refine zs_iload dX13_row_110 rfl ?_
    refine zs_iald 7 dX13_row_112 rfl (vp_in_nI (by omega) (by omega)) ?_
    refine zs_as (y := nI ((M.2 29) k)) (by rw [nI_c (n := k) (by omega)]; rfl) ?_
    refine zs_icmp_ge (tgt := 140) dX13_row_113 (by decide) (fun c_1 => ?_) (fun c_1 => (c_1 (by rw [show i = M.2 29 k by omega]; exact Int32.le_refl _) : False).elim)
    rw [show i = M.2 29 k by omega]
    refine zs_lv [0, 1, 2, 3, 4, 5, 6] rfl ?_
    exact hk
  | succ m ih =>
    intro i hi
    refine zs_iload dX13_row_104 rfl ?_
    refine zs_aload_n dX13_row_106 rfl rfl ?_
    refine zs_get 0 dX13_row_107 zf_RX13_54 rfl (v := .ref (e 29)) rfl ?_
    refine zs_iload dX13_row_110 rfl ?_
    refine zs_iald 7 dX13_row_112 rfl (vp_in_nI (by omega) (by omega)) ?_
    refine zs_as (y := nI ((M.2 29) k)) (by rw [nI_c (n := k) (by omega)]; rfl) ?_
    refine zs_icmp_ge (tgt := 140) dX13_row_113 (by decide) (fun c_1 => (nI_ge (show i < M.2 29 k by omega) (by omega) c_1 : False).elim) (fun c_1 => ?_)
    refine zs_iload dX13_row_116 rfl ?_
    refine zs_aload_n dX13_row_118 rfl rfl ?_
    refine zs_get 0 dX13_row_119 zf_RX13_51 rfl (v := .ref (e 28)) rfl ?_
    refine zs_bipush (v := nI 30) dX13_row_122 (by decide) ?_
    refine zs_iload dX13_row_124 rfl ?_
    refine zs_imul dX13_row_126 ?_
    refine zs_as (y := nI (30 * k)) (nI_mul _ _) ?_
    refine zs_iload dX13_row_127 rfl ?_
    refine zs_iadd dX13_row_129 ?_
    refine zs_as (y := nI ((30 * k) + i)) (nI_add _ _) ?_
    refine zs_iald 6 dX13_row_130 rfl (vp_in_nI (by omega) (by omega)) ?_
    refine zs_as (y := nI ((M.2 28) ((30 * k) + i))) (by rw [nI_c (n := (30 * k) + i) (by omega)]; rfl) ?_
    refine zs_iadd dX13_row_131 ?_
    refine zs_as (y := nI (((nSum (gS M) k) + M.2 26 k + nSum (fun i => M.2 28 (30 * k + i)) i) + ((M.2 28) ((30 * k) + i)))) (nI_add _ _) ?_
    refine zs_istore (lv' := [(5, .int (nI (((nSum (gS M) k) + M.2 26 k + nSum (fun i => M.2 28 (30 * k + i)) i) + ((M.2 28) ((30 * k) + i))))), (0, .ref mo), (1, .int (nI tk)), (2, .int v), (3, .int (nI (cHp (M.2 30) (k + 1)).2)), (4, .int (nI (cHp (M.2 30) (k + 1)).1)), (6, .int (nI k)), (7, .int (nI i))]) dX13_row_132 (Nat.le_of_ble_eq_true rfl) rfl ?_
    refine zs_iinc (v := (nI (i + 1))) (lv' := [(7, .int (nI (i + 1))), (5, .int (nI (((nSum (gS M) k) + M.2 26 k + nSum (fun i => M.2 28 (30 * k + i)) i) + ((M.2 28) ((30 * k) + i))))), (0, .ref mo), (1, .int (nI tk)), (2, .int v), (3, .int (nI (cHp (M.2 30) (k + 1)).2)), (4, .int (nI (cHp (M.2 30) (k + 1)).1)), (6, .int (nI k))]) dX13_row_134 rfl (nI_add _ 1) (Nat.le_of_ble_eq_true rfl) rfl ?_
    refine zs_goto (tgt := 104) dX13_row_137 (by decide) ?_
    rw [show ((nSum (gS M) k) + M.2 26 k + nSum (fun i => M.2 28 (30 * k + i)) i) + (M.2 28) ((30 * k) + i) = ((nSum (gS M) k) + M.2 26 k + nSum (fun i => M.2 28 (30 * k + i)) (i + 1)) from Nat.add_assoc _ _ _]
    refine zs_lv [2, 3, 4, 5, 6, 1, 7, 0] rfl ?_
    exact ih (i + 1) (by omega)
set_option maxRecDepth 100000 in
theorem lp_row1 {l : Launch} {dd : Nat} {Po : zPo} {K0 : zK} {h0 : List va_E} {Xo : zK → Prop} {Gc : zG → Prop} (mo : Nat) (e : Nat → Nat) (g : Nat → Int32) (w : Int64) (nw : Nat → Int32) (M : zRs) (bt : Nat → Nat) (rb rd : Nat → Int32) (tk : Nat) (v : Int32) (n : Nat) (h33 : M.1 33 = n) (hn : 2 ≤ n ∧ n ≤ 12) (h29 : ∀ p, p < n → M.2 29 p ≤ 30) (h30 : ∀ p, p < n → M.2 30 p ≤ 30) (h30z : M.2 30 0 = 0) (hk : zS (l, mX13_row, dd, Po, K0, h0, Xo, Gc) 0 0 160 [(0, .ref mo), (1, .int (nI tk)), (2, .int v), (3, .int (nI (cHp (M.2 30) n).2)), (4, .int (nI (cHp (M.2 30) n).1)), (5, .int (nI (nSum (gS M) n)))] [] [(mo, .inr (11, fMo e (mg g M.1) w)), ((e 14), .inl (0, 800, .inl nw)), ((e 24), .inl (0, 12, .inl (nF (M.2 24)))), ((e 25), .inl (0, 12, .inl (nF (M.2 25)))), ((e 26), .inl (0, 12, .inl (nF (M.2 26)))), ((e 27), .inl (0, 12, .inl (nF (M.2 27)))), ((e 28), .inl (0, 360, .inl (nF (M.2 28)))), ((e 29), .inl (0, 12, .inl (nF (M.2 29)))), ((e 30), .inl (0, 12, .inl (nF (M.2 30)))), ((e 31), .inl (0, 30, .inl (nF (M.2 31)))), ((e 32), .inl (0, 12, .inl (nF (M.2 32)))), ((e 1), .inl (0, 740, .inl (nF bt))), ((e 43), .inl (0, 6, .inl rb)), ((e 44), .inl (0, 12, .inl (pCl (nF (M.2 27)) rd n)))]) : ∀ (m k : Nat), k + m = n → zS (l, mX13_row, dd, Po, K0, h0, Xo, Gc) 0 0 57 [(0, .ref mo), (1, .int (nI tk)), (2, .int v), (3, .int (nI (cHp (M.2 30) k).2)), (4, .int (nI (cHp (M.2 30) k).1)), (5, .int (nI (nSum (gS M) k))), (6, .int (nI k))] [] [(mo, .inr (11, fMo e (mg g M.1) w)), ((e 14), .inl (0, 800, .inl nw)), ((e 24), .inl (0, 12, .inl (nF (M.2 24)))), ((e 25), .inl (0, 12, .inl (nF (M.2 25)))), ((e 26), .inl (0, 12, .inl (nF (M.2 26)))), ((e 27), .inl (0, 12, .inl (nF (M.2 27)))), ((e 28), .inl (0, 360, .inl (nF (M.2 28)))), ((e 29), .inl (0, 12, .inl (nF (M.2 29)))), ((e 30), .inl (0, 12, .inl (nF (M.2 30)))), ((e 31), .inl (0, 30, .inl (nF (M.2 31)))), ((e 32), .inl (0, 12, .inl (nF (M.2 32)))), ((e 1), .inl (0, 740, .inl (nF bt))), ((e 43), .inl (0, 6, .inl rb)), ((e 44), .inl (0, 12, .inl (pCl (nF (M.2 27)) rd k)))] := by
  intro m
  induction m with
  | zero =>
    intro k hi
    refine zs_iload dX13_row_57 rfl ?_
    refine zs_aload_n dX13_row_59 rfl rfl ?_
    refine zs_get 0 dX13_row_60 zf_RX13_304 rfl (v := .int (nI (M.1 33))) rfl ?_
    refine zs_icmp_ge (tgt := 160) dX13_row_63 (by decide) (fun c_1 => ?_) (fun c_1 => (c_1 (by rw [show k = M.1 33 by omega]; exact Int32.le_refl _) : False).elim)
    rw [show k = n by omega]
    refine zs_lv [0, 1, 2, 3, 4, 5] rfl ?_
    exact hk
  | succ m ih =>
    intro k hi
    refine zs_iload dX13_row_57 rfl ?_
    refine zs_aload_n dX13_row_59 rfl rfl ?_
    refine zs_get 0 dX13_row_60 zf_RX13_304 rfl (v := .int (nI (M.1 33))) rfl ?_
    refine zs_icmp_ge (tgt := 160) dX13_row_63 (by decide) (fun c_1 => (nI_ge (show k < M.1 33 by omega) (by omega) c_1 : False).elim) (fun c_1 => ?_)
    refine zs_aload_n dX13_row_66 rfl rfl ?_
    refine zs_get 0 dX13_row_67 zf_RX13_57 rfl (v := .ref (e 30)) rfl ?_
    refine zs_iload dX13_row_70 rfl ?_
    refine zs_iald 8 dX13_row_72 rfl (vp_in_nI (by omega) (by omega)) ?_
    refine zs_as (y := nI ((M.2 30) k)) (by rw [nI_c (n := k) (by omega)]; rfl) ?_
    refine zs_iload_n dX13_row_73 rfl ?_
    have hle := cHp_le h30 k (by omega)
    have h30k := h30 k (by omega)
    refine zs_icmp_le (tgt := 89) dX13_row_74 (by decide) (fun c_2 => ?_) (fun c_2 => ?_)
    · have c_2 : ((M.2 30) k) ≤ ((cHp (M.2 30) k).2) := by have hc := c_2; rw [nI_le' (by omega) (by omega)] at hc; exact hc
      refine zs_iload dX13_row_89 rfl ?_
      refine zs_aload_n dX13_row_91 rfl rfl ?_
      refine zs_get 0 dX13_row_92 zf_RX13_45 rfl (v := .ref (e 26)) rfl ?_
      refine zs_iload dX13_row_95 rfl ?_
      refine zs_iald 4 dX13_row_97 rfl (vp_in_nI (by omega) (by omega)) ?_
      refine zs_as (y := nI ((M.2 26) k)) (by rw [nI_c (n := k) (by omega)]; rfl) ?_
      refine zs_iadd dX13_row_98 ?_
      refine zs_as (y := nI ((nSum (gS M) k) + ((M.2 26) k))) (nI_add _ _) ?_
      refine zs_istore (lv' := [(5, .int (nI ((nSum (gS M) k) + ((M.2 26) k)))), (0, .ref mo), (1, .int (nI tk)), (2, .int v), (3, .int (nI (cHp (M.2 30) k).2)), (4, .int (nI (cHp (M.2 30) k).1)), (6, .int (nI k))]) dX13_row_99 (Nat.le_of_ble_eq_true rfl) rfl ?_
      refine zs_iconst (v := nI 0) dX13_row_101 (by decide) ?_
      refine zs_istore (lv' := [(7, .int (nI 0)), (5, .int (nI ((nSum (gS M) k) + ((M.2 26) k)))), (0, .ref mo), (1, .int (nI tk)), (2, .int v), (3, .int (nI (cHp (M.2 30) k).2)), (4, .int (nI (cHp (M.2 30) k).1)), (6, .int (nI k))]) dX13_row_102 (Nat.le_of_ble_eq_true rfl) rfl ?_
      refine zs_lv [2, 3, 4, 5, 6, 1, 7, 0] rfl ?_
      have ek : cHp (M.2 30) (k + 1) = cHp (M.2 30) k := by
        rw [cHp]
        by_cases q : k = 0
        · rw [if_pos q, q]; rfl
        · rw [if_neg q, if_neg (show ¬ (cHp (M.2 30) k).2 < M.2 30 k by omega)]
      suffices hgo : zS (l, mX13_row, dd, Po, K0, h0, Xo, Gc) 0 0 104 [(0, .ref mo), (1, .int (nI tk)), (2, .int v), (3, .int (nI (cHp (M.2 30) (k + 1)).2)), (4, .int (nI (cHp (M.2 30) (k + 1)).1)), (5, .int (nI ((nSum (gS M) k) + M.2 26 k + nSum (fun i => M.2 28 (30 * k + i)) 0))), (6, .int (nI k)), (7, .int (nI 0))] [] [(mo, .inr (11, fMo e (mg g M.1) w)), ((e 14), .inl (0, 800, .inl nw)), ((e 24), .inl (0, 12, .inl (nF (M.2 24)))), ((e 25), .inl (0, 12, .inl (nF (M.2 25)))), ((e 26), .inl (0, 12, .inl (nF (M.2 26)))), ((e 27), .inl (0, 12, .inl (nF (M.2 27)))), ((e 28), .inl (0, 360, .inl (nF (M.2 28)))), ((e 29), .inl (0, 12, .inl (nF (M.2 29)))), ((e 30), .inl (0, 12, .inl (nF (M.2 30)))), ((e 31), .inl (0, 30, .inl (nF (M.2 31)))), ((e 32), .inl (0, 12, .inl (nF (M.2 32)))), ((e 1), .inl (0, 740, .inl (nF bt))), ((e 43), .inl (0, 6, .inl rb)), ((e 44), .inl (0, 12, .inl (pCl (nF (M.2 27)) rd k)))] by rw [ek] at hgo; exact hgo
      refine lp_row2 mo e g w nw M bt rb rd tk v n h33 hn h29 h30 h30z k (by omega) ?_ (M.2 29 k) 0 (Nat.zero_add _)
      rw [show ((nSum (gS M) k) + M.2 26 k + nSum (fun i => M.2 28 (30 * k + i)) (M.2 29 k)) = (nSum (gS M) (k + 1)) from Nat.add_assoc _ _ _]
      refine zs_aload_n dX13_row_140 rfl rfl ?_
      refine zs_get 0 dX13_row_141 zf_RX13_69 rfl (v := .ref (e 44)) rfl ?_
      refine zs_iload dX13_row_144 rfl ?_
      refine zs_aload_n dX13_row_146 rfl rfl ?_
      refine zs_get 0 dX13_row_147 zf_RX13_48 rfl (v := .ref (e 27)) rfl ?_
      refine zs_iload dX13_row_150 rfl ?_
      refine zs_iald 5 dX13_row_152 rfl (vp_in_nI (by omega) (by omega)) ?_
      refine zs_as (y := nI ((M.2 27) k)) (by rw [nI_c (n := k) (by omega)]; rfl) ?_
      refine zs_iast 13 dX13_row_153 rfl (vp_in_nI (by omega) (by omega)) ?_
      rw [nI_c (n := k) (by omega)]
      show zS _ _ _ _ _ _ [(mo, .inr (11, fMo e (mg g M.1) w)), ((e 14), .inl (0, 800, .inl nw)), ((e 24), .inl (0, 12, .inl (nF (M.2 24)))), ((e 25), .inl (0, 12, .inl (nF (M.2 25)))), ((e 26), .inl (0, 12, .inl (nF (M.2 26)))), ((e 27), .inl (0, 12, .inl (nF (M.2 27)))), ((e 28), .inl (0, 360, .inl (nF (M.2 28)))), ((e 29), .inl (0, 12, .inl (nF (M.2 29)))), ((e 30), .inl (0, 12, .inl (nF (M.2 30)))), ((e 31), .inl (0, 30, .inl (nF (M.2 31)))), ((e 32), .inl (0, 12, .inl (nF (M.2 32)))), ((e 1), .inl (0, 740, .inl (nF bt))), ((e 43), .inl (0, 6, .inl rb)), ((e 44), .inl (0, 12, .inl (upd (pCl (nF (M.2 27)) rd k) k (nI ((M.2 27) k)))))]
      refine zs_iinc (v := (nI (k + 1))) (lv' := [(6, .int (nI (k + 1))), (0, .ref mo), (1, .int (nI tk)), (2, .int v), (3, .int (nI (cHp (M.2 30) (k + 1)).2)), (4, .int (nI (cHp (M.2 30) (k + 1)).1)), (5, .int (nI (nSum (gS M) (k + 1))))]) dX13_row_154 rfl (nI_add _ 1) (Nat.le_of_ble_eq_true rfl) rfl ?_
      refine zs_goto (tgt := 57) dX13_row_157 (by decide) ?_
      refine zs_lv [1, 2, 3, 4, 5, 6, 0] rfl ?_
      rw [pCl_u (new := nF (M.2 27)) (old := rd) (k := k) (x := nI (M.2 27 k)) rfl]
      exact ih (k + 1) (by omega)
    · have c_2 : ¬ (((M.2 30) k) ≤ ((cHp (M.2 30) k).2)) := by have hc := c_2; rw [nI_le' (by omega) (by omega)] at hc; exact hc
      have hgt : (cHp (M.2 30) k).2 < M.2 30 k := by omega
      refine zs_aload_n dX13_row_77 rfl rfl ?_
      refine zs_get 0 dX13_row_78 zf_RX13_57 rfl (v := .ref (e 30)) rfl ?_
      refine zs_iload dX13_row_81 rfl ?_
      refine zs_iald 8 dX13_row_83 rfl (vp_in_nI (by omega) (by omega)) ?_
      refine zs_as (y := nI ((M.2 30) k)) (by rw [nI_c (n := k) (by omega)]; rfl) ?_
      refine zs_istore_n (lv' := [(3, .int (nI ((M.2 30) k))), (0, .ref mo), (1, .int (nI tk)), (2, .int v), (4, .int (nI (cHp (M.2 30) k).1)), (5, .int (nI (nSum (gS M) k))), (6, .int (nI k))]) dX13_row_84 (Nat.le_of_ble_eq_true rfl) rfl ?_
      refine zs_iload dX13_row_85 rfl ?_
      refine zs_istore (lv' := [(4, .int (nI k)), (3, .int (nI ((M.2 30) k))), (0, .ref mo), (1, .int (nI tk)), (2, .int v), (5, .int (nI (nSum (gS M) k))), (6, .int (nI k))]) dX13_row_87 (Nat.le_of_ble_eq_true rfl) rfl ?_
      refine zs_iload dX13_row_89 rfl ?_
      refine zs_aload_n dX13_row_91 rfl rfl ?_
      refine zs_get 0 dX13_row_92 zf_RX13_45 rfl (v := .ref (e 26)) rfl ?_
      refine zs_iload dX13_row_95 rfl ?_
      refine zs_iald 4 dX13_row_97 rfl (vp_in_nI (by omega) (by omega)) ?_
      refine zs_as (y := nI ((M.2 26) k)) (by rw [nI_c (n := k) (by omega)]; rfl) ?_
      refine zs_iadd dX13_row_98 ?_
      refine zs_as (y := nI ((nSum (gS M) k) + ((M.2 26) k))) (nI_add _ _) ?_
      refine zs_istore (lv' := [(5, .int (nI ((nSum (gS M) k) + ((M.2 26) k)))), (4, .int (nI k)), (3, .int (nI ((M.2 30) k))), (0, .ref mo), (1, .int (nI tk)), (2, .int v), (6, .int (nI k))]) dX13_row_99 (Nat.le_of_ble_eq_true rfl) rfl ?_
      refine zs_iconst (v := nI 0) dX13_row_101 (by decide) ?_
      refine zs_istore (lv' := [(7, .int (nI 0)), (5, .int (nI ((nSum (gS M) k) + ((M.2 26) k)))), (4, .int (nI k)), (3, .int (nI ((M.2 30) k))), (0, .ref mo), (1, .int (nI tk)), (2, .int v), (6, .int (nI k))]) dX13_row_102 (Nat.le_of_ble_eq_true rfl) rfl ?_
      refine zs_lv [4, 5, 6, 3, 2, 1, 7, 0] rfl ?_
      have ek : cHp (M.2 30) (k + 1) = (k, M.2 30 k) := by rw [cHp, if_neg (show ¬ k = 0 from fun q => by rw [q, h30z] at hgt; omega), if_pos hgt]
      suffices hgo : zS (l, mX13_row, dd, Po, K0, h0, Xo, Gc) 0 0 104 [(0, .ref mo), (1, .int (nI tk)), (2, .int v), (3, .int (nI (cHp (M.2 30) (k + 1)).2)), (4, .int (nI (cHp (M.2 30) (k + 1)).1)), (5, .int (nI ((nSum (gS M) k) + M.2 26 k + nSum (fun i => M.2 28 (30 * k + i)) 0))), (6, .int (nI k)), (7, .int (nI 0))] [] [(mo, .inr (11, fMo e (mg g M.1) w)), ((e 14), .inl (0, 800, .inl nw)), ((e 24), .inl (0, 12, .inl (nF (M.2 24)))), ((e 25), .inl (0, 12, .inl (nF (M.2 25)))), ((e 26), .inl (0, 12, .inl (nF (M.2 26)))), ((e 27), .inl (0, 12, .inl (nF (M.2 27)))), ((e 28), .inl (0, 360, .inl (nF (M.2 28)))), ((e 29), .inl (0, 12, .inl (nF (M.2 29)))), ((e 30), .inl (0, 12, .inl (nF (M.2 30)))), ((e 31), .inl (0, 30, .inl (nF (M.2 31)))), ((e 32), .inl (0, 12, .inl (nF (M.2 32)))), ((e 1), .inl (0, 740, .inl (nF bt))), ((e 43), .inl (0, 6, .inl rb)), ((e 44), .inl (0, 12, .inl (pCl (nF (M.2 27)) rd k)))] by rw [ek] at hgo; exact hgo
      refine lp_row2 mo e g w nw M bt rb rd tk v n h33 hn h29 h30 h30z k (by omega) ?_ (M.2 29 k) 0 (Nat.zero_add _)
      rw [show ((nSum (gS M) k) + M.2 26 k + nSum (fun i => M.2 28 (30 * k + i)) (M.2 29 k)) = (nSum (gS M) (k + 1)) from Nat.add_assoc _ _ _]
      refine zs_aload_n dX13_row_140 rfl rfl ?_
      refine zs_get 0 dX13_row_141 zf_RX13_69 rfl (v := .ref (e 44)) rfl ?_
      refine zs_iload dX13_row_144 rfl ?_
      refine zs_aload_n dX13_row_146 rfl rfl ?_
      refine zs_get 0 dX13_row_147 zf_RX13_48 rfl (v := .ref (e 27)) rfl ?_
      refine zs_iload dX13_row_150 rfl ?_
      refine zs_iald 5 dX13_row_152 rfl (vp_in_nI (by omega) (by omega)) ?_
      refine zs_as (y := nI ((M.2 27) k)) (by rw [nI_c (n := k) (by omega)]; rfl) ?_
      refine zs_iast 13 dX13_row_153 rfl (vp_in_nI (by omega) (by omega)) ?_
      rw [nI_c (n := k) (by omega)]
      show zS _ _ _ _ _ _ [(mo, .inr (11, fMo e (mg g M.1) w)), ((e 14), .inl (0, 800, .inl nw)), ((e 24), .inl (0, 12, .inl (nF (M.2 24)))), ((e 25), .inl (0, 12, .inl (nF (M.2 25)))), ((e 26), .inl (0, 12, .inl (nF (M.2 26)))), ((e 27), .inl (0, 12, .inl (nF (M.2 27)))), ((e 28), .inl (0, 360, .inl (nF (M.2 28)))), ((e 29), .inl (0, 12, .inl (nF (M.2 29)))), ((e 30), .inl (0, 12, .inl (nF (M.2 30)))), ((e 31), .inl (0, 30, .inl (nF (M.2 31)))), ((e 32), .inl (0, 12, .inl (nF (M.2 32)))), ((e 1), .inl (0, 740, .inl (nF bt))), ((e 43), .inl (0, 6, .inl rb)), ((e 44), .inl (0, 12, .inl (upd (pCl (nF (M.2 27)) rd k) k (nI ((M.2 27) k)))))]
      refine zs_iinc (v := (nI (k + 1))) (lv' := [(6, .int (nI (k + 1))), (0, .ref mo), (1, .int (nI tk)), (2, .int v), (3, .int (nI (cHp (M.2 30) (k + 1)).2)), (4, .int (nI (cHp (M.2 30) (k + 1)).1)), (5, .int (nI (nSum (gS M) (k + 1))))]) dX13_row_154 rfl (nI_add _ 1) (Nat.le_of_ble_eq_true rfl) rfl ?_
      refine zs_goto (tgt := 57) dX13_row_157 (by decide) ?_
      refine zs_lv [1, 2, 3, 4, 5, 6, 0] rfl ?_
      rw [pCl_u (new := nF (M.2 27)) (old := rd) (k := k) (x := nI (M.2 27 k)) rfl]
      exact ih (k + 1) (by omega)
