/-! ===== the reference: hooks tried ===== -/
theorem dX13_tryHooks_0 : decode cX13_tryHooks 0 = .ok (.iload_n 1, 1) := by decide +kernel
theorem dX13_tryHooks_1 : decode cX13_tryHooks 1 = .ok (.iload_n 2, 1) := by decide +kernel
theorem dX13_tryHooks_2 : decode cX13_tryHooks 2 = .ok (.if_icmp .ne 147, 3) := by decide +kernel
theorem dX13_tryHooks_5 : decode cX13_tryHooks 5 = .ok (.iconst 0, 1) := by decide +kernel
theorem dX13_tryHooks_6 : decode cX13_tryHooks 6 = .ok (.istore 4, 2) := by decide +kernel
theorem dX13_tryHooks_8 : decode cX13_tryHooks 8 = .ok (.iconst 0, 1) := by decide +kernel
theorem dX13_tryHooks_9 : decode cX13_tryHooks 9 = .ok (.istore 5, 2) := by decide +kernel
theorem dX13_tryHooks_11 : decode cX13_tryHooks 11 = .ok (.iload 5, 2) := by decide +kernel
theorem dX13_tryHooks_13 : decode cX13_tryHooks 13 = .ok (.aload_n 0, 1) := by decide +kernel
theorem dX13_tryHooks_14 : decode cX13_tryHooks 14 = .ok (.getfield 411, 3) := by decide +kernel
theorem dX13_tryHooks_17 : decode cX13_tryHooks 17 = .ok (.if_icmp .ge 78, 3) := by decide +kernel
theorem dX13_tryHooks_20 : decode cX13_tryHooks 20 = .ok (.sipush 1000, 3) := by decide +kernel
theorem dX13_tryHooks_23 : decode cX13_tryHooks 23 = .ok (.istore 6, 2) := by decide +kernel
theorem dX13_tryHooks_25 : decode cX13_tryHooks 25 = .ok (.iconst 0, 1) := by decide +kernel
theorem dX13_tryHooks_26 : decode cX13_tryHooks 26 = .ok (.istore 7, 2) := by decide +kernel
theorem dX13_tryHooks_28 : decode cX13_tryHooks 28 = .ok (.iload 7, 2) := by decide +kernel
theorem dX13_tryHooks_30 : decode cX13_tryHooks 30 = .ok (.iload_n 2, 1) := by decide +kernel
theorem dX13_tryHooks_31 : decode cX13_tryHooks 31 = .ok (.if_icmp .ge 47, 3) := by decide +kernel
theorem dX13_tryHooks_34 : decode cX13_tryHooks 34 = .ok (.aload_n 0, 1) := by decide +kernel
theorem dX13_tryHooks_35 : decode cX13_tryHooks 35 = .ok (.getfield 93, 3) := by decide +kernel
theorem dX13_tryHooks_38 : decode cX13_tryHooks 38 = .ok (.iload 5, 2) := by decide +kernel
theorem dX13_tryHooks_40 : decode cX13_tryHooks 40 = .ok (.iaload, 1) := by decide +kernel
theorem dX13_tryHooks_41 : decode cX13_tryHooks 41 = .ok (.aload_n 0, 1) := by decide +kernel
theorem dX13_tryHooks_42 : decode cX13_tryHooks 42 = .ok (.getfield 96, 3) := by decide +kernel
theorem dX13_tryHooks_45 : decode cX13_tryHooks 45 = .ok (.iload 7, 2) := by decide +kernel
theorem dX13_tryHooks_47 : decode cX13_tryHooks 47 = .ok (.iaload, 1) := by decide +kernel
theorem dX13_tryHooks_48 : decode cX13_tryHooks 48 = .ok (.isub, 1) := by decide +kernel
theorem dX13_tryHooks_49 : decode cX13_tryHooks 49 = .ok (.istore 8, 2) := by decide +kernel
theorem dX13_tryHooks_51 : decode cX13_tryHooks 51 = .ok (.iload 8, 2) := by decide +kernel
theorem dX13_tryHooks_53 : decode cX13_tryHooks 53 = .ok (.ifCond .ge 8, 3) := by decide +kernel
theorem dX13_tryHooks_56 : decode cX13_tryHooks 56 = .ok (.iload 8, 2) := by decide +kernel
theorem dX13_tryHooks_58 : decode cX13_tryHooks 58 = .ok (.ineg, 1) := by decide +kernel
theorem dX13_tryHooks_59 : decode cX13_tryHooks 59 = .ok (.istore 8, 2) := by decide +kernel
theorem dX13_tryHooks_61 : decode cX13_tryHooks 61 = .ok (.iload 8, 2) := by decide +kernel
theorem dX13_tryHooks_63 : decode cX13_tryHooks 63 = .ok (.iload 6, 2) := by decide +kernel
theorem dX13_tryHooks_65 : decode cX13_tryHooks 65 = .ok (.if_icmp .ge 7, 3) := by decide +kernel
theorem dX13_tryHooks_68 : decode cX13_tryHooks 68 = .ok (.iload 8, 2) := by decide +kernel
theorem dX13_tryHooks_70 : decode cX13_tryHooks 70 = .ok (.istore 6, 2) := by decide +kernel
theorem dX13_tryHooks_72 : decode cX13_tryHooks 72 = .ok (.iinc 7 1, 3) := by decide +kernel
theorem dX13_tryHooks_75 : decode cX13_tryHooks 75 = .ok (.goto (-47), 3) := by decide +kernel
theorem dX13_tryHooks_78 : decode cX13_tryHooks 78 = .ok (.iload 6, 2) := by decide +kernel
theorem dX13_tryHooks_80 : decode cX13_tryHooks 80 = .ok (.iload 4, 2) := by decide +kernel
theorem dX13_tryHooks_82 : decode cX13_tryHooks 82 = .ok (.if_icmp .le 7, 3) := by decide +kernel
theorem dX13_tryHooks_85 : decode cX13_tryHooks 85 = .ok (.iload 6, 2) := by decide +kernel
theorem dX13_tryHooks_87 : decode cX13_tryHooks 87 = .ok (.istore 4, 2) := by decide +kernel
theorem dX13_tryHooks_89 : decode cX13_tryHooks 89 = .ok (.iinc 5 1, 3) := by decide +kernel
theorem dX13_tryHooks_92 : decode cX13_tryHooks 92 = .ok (.goto (-81), 3) := by decide +kernel
theorem dX13_tryHooks_95 : decode cX13_tryHooks 95 = .ok (.aload_n 0, 1) := by decide +kernel
theorem dX13_tryHooks_96 : decode cX13_tryHooks 96 = .ok (.getfield 414, 3) := by decide +kernel
theorem dX13_tryHooks_99 : decode cX13_tryHooks 99 = .ok (.iconst (-1), 1) := by decide +kernel
theorem dX13_tryHooks_100 : decode cX13_tryHooks 100 = .ok (.if_icmp .eq 13, 3) := by decide +kernel
theorem dX13_tryHooks_103 : decode cX13_tryHooks 103 = .ok (.iload 4, 2) := by decide +kernel
theorem dX13_tryHooks_105 : decode cX13_tryHooks 105 = .ok (.aload_n 0, 1) := by decide +kernel
theorem dX13_tryHooks_106 : decode cX13_tryHooks 106 = .ok (.getfield 414, 3) := by decide +kernel
theorem dX13_tryHooks_109 : decode cX13_tryHooks 109 = .ok (.if_icmp .lt 4, 3) := by decide +kernel
theorem dX13_tryHooks_112 : decode cX13_tryHooks 112 = .ok (.return_, 1) := by decide +kernel
theorem dX13_tryHooks_113 : decode cX13_tryHooks 113 = .ok (.aload_n 0, 1) := by decide +kernel
theorem dX13_tryHooks_114 : decode cX13_tryHooks 114 = .ok (.iload 4, 2) := by decide +kernel
theorem dX13_tryHooks_116 : decode cX13_tryHooks 116 = .ok (.putfield 414, 3) := by decide +kernel
theorem dX13_tryHooks_119 : decode cX13_tryHooks 119 = .ok (.iconst 0, 1) := by decide +kernel
theorem dX13_tryHooks_120 : decode cX13_tryHooks 120 = .ok (.istore 5, 2) := by decide +kernel
theorem dX13_tryHooks_122 : decode cX13_tryHooks 122 = .ok (.iload 5, 2) := by decide +kernel
theorem dX13_tryHooks_124 : decode cX13_tryHooks 124 = .ok (.iload_n 2, 1) := by decide +kernel
theorem dX13_tryHooks_125 : decode cX13_tryHooks 125 = .ok (.if_icmp .ge 23, 3) := by decide +kernel
theorem dX13_tryHooks_128 : decode cX13_tryHooks 128 = .ok (.aload_n 0, 1) := by decide +kernel
theorem dX13_tryHooks_129 : decode cX13_tryHooks 129 = .ok (.getfield 99, 3) := by decide +kernel
theorem dX13_tryHooks_132 : decode cX13_tryHooks 132 = .ok (.iload 5, 2) := by decide +kernel
theorem dX13_tryHooks_134 : decode cX13_tryHooks 134 = .ok (.aload_n 0, 1) := by decide +kernel
theorem dX13_tryHooks_135 : decode cX13_tryHooks 135 = .ok (.getfield 96, 3) := by decide +kernel
theorem dX13_tryHooks_138 : decode cX13_tryHooks 138 = .ok (.iload 5, 2) := by decide +kernel
theorem dX13_tryHooks_140 : decode cX13_tryHooks 140 = .ok (.iaload, 1) := by decide +kernel
theorem dX13_tryHooks_141 : decode cX13_tryHooks 141 = .ok (.iastore, 1) := by decide +kernel
theorem dX13_tryHooks_142 : decode cX13_tryHooks 142 = .ok (.iinc 5 1, 3) := by decide +kernel
theorem dX13_tryHooks_145 : decode cX13_tryHooks 145 = .ok (.goto (-23), 3) := by decide +kernel
theorem dX13_tryHooks_148 : decode cX13_tryHooks 148 = .ok (.return_, 1) := by decide +kernel
theorem dX13_tryHooks_149 : decode cX13_tryHooks 149 = .ok (.iload_n 3, 1) := by decide +kernel
theorem dX13_tryHooks_150 : decode cX13_tryHooks 150 = .ok (.istore 4, 2) := by decide +kernel
theorem dX13_tryHooks_152 : decode cX13_tryHooks 152 = .ok (.iload 4, 2) := by decide +kernel
theorem dX13_tryHooks_154 : decode cX13_tryHooks 154 = .ok (.aload_n 0, 1) := by decide +kernel
theorem dX13_tryHooks_155 : decode cX13_tryHooks 155 = .ok (.getfield 411, 3) := by decide +kernel
theorem dX13_tryHooks_158 : decode cX13_tryHooks 158 = .ok (.if_icmp .ge 34, 3) := by decide +kernel
theorem dX13_tryHooks_161 : decode cX13_tryHooks 161 = .ok (.aload_n 0, 1) := by decide +kernel
theorem dX13_tryHooks_162 : decode cX13_tryHooks 162 = .ok (.getfield 96, 3) := by decide +kernel
theorem dX13_tryHooks_165 : decode cX13_tryHooks 165 = .ok (.iload_n 1, 1) := by decide +kernel
theorem dX13_tryHooks_166 : decode cX13_tryHooks 166 = .ok (.aload_n 0, 1) := by decide +kernel
theorem dX13_tryHooks_167 : decode cX13_tryHooks 167 = .ok (.getfield 93, 3) := by decide +kernel
theorem dX13_tryHooks_170 : decode cX13_tryHooks 170 = .ok (.iload 4, 2) := by decide +kernel
theorem dX13_tryHooks_172 : decode cX13_tryHooks 172 = .ok (.iaload, 1) := by decide +kernel
theorem dX13_tryHooks_173 : decode cX13_tryHooks 173 = .ok (.iastore, 1) := by decide +kernel
theorem dX13_tryHooks_174 : decode cX13_tryHooks 174 = .ok (.aload_n 0, 1) := by decide +kernel
theorem dX13_tryHooks_175 : decode cX13_tryHooks 175 = .ok (.iload_n 1, 1) := by decide +kernel
theorem dX13_tryHooks_176 : decode cX13_tryHooks 176 = .ok (.iconst 1, 1) := by decide +kernel
theorem dX13_tryHooks_177 : decode cX13_tryHooks 177 = .ok (.iadd, 1) := by decide +kernel
theorem dX13_tryHooks_178 : decode cX13_tryHooks 178 = .ok (.iload_n 2, 1) := by decide +kernel
theorem dX13_tryHooks_179 : decode cX13_tryHooks 179 = .ok (.iload 4, 2) := by decide +kernel
theorem dX13_tryHooks_181 : decode cX13_tryHooks 181 = .ok (.iconst 1, 1) := by decide +kernel
theorem dX13_tryHooks_182 : decode cX13_tryHooks 182 = .ok (.iadd, 1) := by decide +kernel
theorem dX13_tryHooks_183 : decode cX13_tryHooks 183 = .ok (.invokevirtual 417, 3) := by decide +kernel
theorem dX13_tryHooks_186 : decode cX13_tryHooks 186 = .ok (.iinc 4 1, 3) := by decide +kernel
theorem dX13_tryHooks_189 : decode cX13_tryHooks 189 = .ok (.goto (-37), 3) := by decide +kernel
theorem dX13_tryHooks_192 : decode cX13_tryHooks 192 = .ok (.return_, 1) := by decide +kernel
/-- how near the nearest hook is, as the reference begins -/
def rNe (H c : Nat → Nat) (h : Nat) : Nat → Nat
  | 0 => 1000
  | i + 1 => min (rNe H c h i) (nDs (H h) (H (c i)))
theorem rNe_le {H c : Nat → Nat} {h : Nat} : ∀ k, rNe H c h k ≤ 1000
  | 0 => Nat.le_refl _
  | k + 1 => Nat.le_trans (Nat.min_le_left _ _) (rNe_le k)
theorem rNe_p {H c : Nat → Nat} {h n : Nat} (hd : ∀ i, i < n → nDs (H h) (H (c i)) ≤ 1000) : ∀ k, k < n → rNe H c h (k + 1) = pNe H c h (k + 1)
  | 0, hk => by
    have := hd 0 hk
    show min 1000 (nDs (H h) (H (c 0))) = min 2147483647 (nDs (H h) (H (c 0)))
    omega
  | k + 1, hk => by
    have ih := rNe_p hd k (by omega)
    show min (rNe H c h (k + 1)) (nDs (H h) (H (c (k + 1)))) = min (pNe H c h (k + 1)) (nDs (H h) (H (c (k + 1))))
    rw [ih]
theorem nI_dp {a b : Nat} (ha : a < 1000000) (hb : b < 1000000) (h : 0 ≤ nI a - nI b) : nI a - nI b = nI (nDs a b) := by
  have := nI_ds ha hb
  rwa [if_pos h] at this
theorem nI_dn {a b : Nat} (ha : a < 1000000) (hb : b < 1000000) (h : ¬ 0 ≤ nI a - nI b) : -(nI a - nI b) = nI (nDs a b) := by
  have := nI_ds ha hb
  rw [if_neg h] at this
  rw [← this]
  exact (Int32.zero_sub _).symm
/-- what the reference has of the hooks -/
def tHk (g : Nat → Int32) (hb H : Nat → Nat) (k : Nat) : Option (Nat × (Nat → Nat)) → Prop
  | none => g 62 = -1
  | some (bp, b) => g 62 = nI bp ∧ bp ≤ 1000 ∧ ∀ p, p < k → hb p = H (b p)
set_option maxRecDepth 100000 in
theorem lp_th1 {l : Launch} {dd : Nat} {Po : zPo} {K0 : zK} {h0 : List va_E} {Xo : zK → Prop} {Gc : zG → Prop} (mo : Nat) (e : Nat → Nat) (g : Nat → Int32) (w : Int64) (H : Nat → Nat) (n k : Nat) (σ : Nat → Nat) (hk hb : Nat → Nat) (fr : Int32) (i h : Nat) (hh : h < n) (hn : n ≤ 12) (hkk : 1 ≤ k ∧ k ≤ 6) (hH : ∀ h, h < n → H h ≤ 99) (hσ : ∀ p, p < k → σ p < n) (h61 : g 61 = nI n) (hsk : ∀ p, p < k → hk p = H (σ p)) (hkx : zS (l, mX13_tryHooks, dd, Po, K0, h0, Xo, Gc) 0 0 78 [(0, .ref mo), (1, .int (nI i)), (2, .int (nI k)), (3, .int fr), (4, .int (nI (pGw H σ k h))), (5, .int (nI h)), (6, .int (nI (rNe H σ h k)))] [] [(mo, .inr (11, fMo e g w)), ((e 57), .inl (0, 12, .inl (nF H))), ((e 58), .inl (0, 6, .inl (nF hk))), ((e 59), .inl (0, 6, .inl (nF hb)))]) : ∀ (q j : Nat), j + q = k → zS (l, mX13_tryHooks, dd, Po, K0, h0, Xo, Gc) 0 0 28 [(0, .ref mo), (1, .int (nI i)), (2, .int (nI k)), (3, .int fr), (4, .int (nI (pGw H σ k h))), (5, .int (nI h)), (6, .int (nI (rNe H σ h j))), (7, .int (nI j))] [] [(mo, .inr (11, fMo e g w)), ((e 57), .inl (0, 12, .inl (nF H))), ((e 58), .inl (0, 6, .inl (nF hk))), ((e 59), .inl (0, 6, .inl (nF hb)))] := by
  intro q
  induction q with
  | zero =>
    intro j hi
    refine zs_iload dX13_tryHooks_28 rfl ?_
    refine zs_iload_n dX13_tryHooks_30 rfl ?_
    refine zs_icmp_ge (tgt := 78) dX13_tryHooks_31 (by decide) (fun c_1 => ?_) (fun c_1 => (c_1 (by rw [show j = k by omega]; exact Int32.le_refl _) : False).elim)
    rw [show j = k by omega]
    refine zs_lv [0, 1, 2, 3, 4, 5, 6] rfl ?_
    exact hkx
  | succ q ih =>
    intro j hi
    refine zs_iload dX13_tryHooks_28 rfl ?_
    refine zs_iload_n dX13_tryHooks_30 rfl ?_
    refine zs_icmp_ge (tgt := 78) dX13_tryHooks_31 (by decide) (fun c_1 => (nI_ge (show j < k by omega) (by omega) c_1 : False).elim) (fun c_1 => ?_)
    refine zs_aload_n dX13_tryHooks_34 rfl rfl ?_
    refine zs_get 0 dX13_tryHooks_35 zf_RX13_93 rfl (v := .ref (e 57)) rfl ?_
    refine zs_iload dX13_tryHooks_38 rfl ?_
    refine zs_iald 1 dX13_tryHooks_40 rfl (vp_in_nI (by omega) (by omega)) ?_
    refine zs_as (y := nI (H h)) (by rw [nI_c (n := h) (by omega)]; rfl) ?_
    refine zs_aload_n dX13_tryHooks_41 rfl rfl ?_
    refine zs_get 0 dX13_tryHooks_42 zf_RX13_96 rfl (v := .ref (e 58)) rfl ?_
    refine zs_iload dX13_tryHooks_45 rfl ?_
    refine zs_iald 2 dX13_tryHooks_47 rfl (vp_in_nI (by omega) (by omega)) ?_
    refine zs_as (y := nI (H (σ j))) (by rw [nI_c (n := j) (by omega)]; exact congrArg nI (hsk j (by omega))) ?_
    refine zs_isub dX13_tryHooks_48 ?_
    refine zs_istore (lv' := [(8, .int ((nI (H h)) - (nI (H (σ j))))), (0, .ref mo), (1, .int (nI i)), (2, .int (nI k)), (3, .int fr), (4, .int (nI (pGw H σ k h))), (5, .int (nI h)), (6, .int (nI (rNe H σ h j))), (7, .int (nI j))]) dX13_tryHooks_49 (Nat.le_of_ble_eq_true rfl) rfl ?_
    refine zs_iload dX13_tryHooks_51 rfl ?_
    refine zs_if_ge (tgt := 61) dX13_tryHooks_53 (by decide) (fun c_2 => ?_) (fun c_2 => ?_)
    · rw [show (nI (H h)) - (nI (H (σ j))) = nI (nDs (H h) (H (σ j))) from nI_dp (by have := hH h hh; omega) (by have := hH (σ j) (hσ j (by omega)); omega) c_2]
      have hds : nDs (H h) (H (σ j)) ≤ 1000 := by have := hH h hh; have := hH (σ j) (hσ j (by omega)); unfold nDs; omega
      have hnr := rNe_le (H := H) (c := σ) (h := h) j
      refine zs_iload dX13_tryHooks_61 rfl ?_
      refine zs_iload dX13_tryHooks_63 rfl ?_
      refine zs_icmp_ge (tgt := 72) dX13_tryHooks_65 (by decide) (fun c_3 => ?_) (fun c_3 => ?_)
      · have c_3 : (rNe H σ h j) ≤ (nDs (H h) (H (σ j))) := by have hc := c_3; rw [nI_le' (by omega) (by omega)] at hc; exact hc
        refine zs_iinc (v := (nI (j + 1))) (lv' := [(7, .int (nI (j + 1))), (8, .int (nI (nDs (H h) (H (σ j))))), (0, .ref mo), (1, .int (nI i)), (2, .int (nI k)), (3, .int fr), (4, .int (nI (pGw H σ k h))), (5, .int (nI h)), (6, .int (nI (rNe H σ h j)))]) dX13_tryHooks_72 rfl (nI_add _ 1) (Nat.le_of_ble_eq_true rfl) rfl ?_
        refine zs_goto (tgt := 28) dX13_tryHooks_75 (by decide) ?_
        have ek : rNe H σ h (j + 1) = rNe H σ h j := Nat.min_eq_left (by omega)
        have hgo := ih (j + 1) (by omega)
        rw [ek] at hgo
        refine zs_lv [2, 3, 4, 5, 6, 7, 8, 0] rfl ?_
        exact hgo
      · have c_3 : ¬ ((rNe H σ h j) ≤ (nDs (H h) (H (σ j)))) := by have hc := c_3; rw [nI_le' (by omega) (by omega)] at hc; exact hc
        refine zs_iload dX13_tryHooks_68 rfl ?_
        refine zs_istore (lv' := [(6, .int (nI (nDs (H h) (H (σ j))))), (8, .int (nI (nDs (H h) (H (σ j))))), (0, .ref mo), (1, .int (nI i)), (2, .int (nI k)), (3, .int fr), (4, .int (nI (pGw H σ k h))), (5, .int (nI h)), (7, .int (nI j))]) dX13_tryHooks_70 (Nat.le_of_ble_eq_true rfl) rfl ?_
        refine zs_iinc (v := (nI (j + 1))) (lv' := [(7, .int (nI (j + 1))), (6, .int (nI (nDs (H h) (H (σ j))))), (8, .int (nI (nDs (H h) (H (σ j))))), (0, .ref mo), (1, .int (nI i)), (2, .int (nI k)), (3, .int fr), (4, .int (nI (pGw H σ k h))), (5, .int (nI h))]) dX13_tryHooks_72 rfl (nI_add _ 1) (Nat.le_of_ble_eq_true rfl) rfl ?_
        refine zs_goto (tgt := 28) dX13_tryHooks_75 (by decide) ?_
        have ek : rNe H σ h (j + 1) = nDs (H h) (H (σ j)) := Nat.min_eq_right (by omega)
        have hgo := ih (j + 1) (by omega)
        rw [ek] at hgo
        refine zs_lv [3, 4, 5, 6, 7, 8, 1, 0] rfl ?_
        exact hgo
    · refine zs_iload dX13_tryHooks_56 rfl ?_
      refine zs_ineg dX13_tryHooks_58 ?_
      refine zs_istore (lv' := [(8, .int (-((nI (H h)) - (nI (H (σ j)))))), (0, .ref mo), (1, .int (nI i)), (2, .int (nI k)), (3, .int fr), (4, .int (nI (pGw H σ k h))), (5, .int (nI h)), (6, .int (nI (rNe H σ h j))), (7, .int (nI j))]) dX13_tryHooks_59 (Nat.le_of_ble_eq_true rfl) rfl ?_
      rw [show -((nI (H h)) - (nI (H (σ j)))) = nI (nDs (H h) (H (σ j))) from nI_dn (by have := hH h hh; omega) (by have := hH (σ j) (hσ j (by omega)); omega) c_2]
      have hds : nDs (H h) (H (σ j)) ≤ 1000 := by have := hH h hh; have := hH (σ j) (hσ j (by omega)); unfold nDs; omega
      have hnr := rNe_le (H := H) (c := σ) (h := h) j
      refine zs_iload dX13_tryHooks_61 rfl ?_
      refine zs_iload dX13_tryHooks_63 rfl ?_
      refine zs_icmp_ge (tgt := 72) dX13_tryHooks_65 (by decide) (fun c_4 => ?_) (fun c_4 => ?_)
      · have c_4 : (rNe H σ h j) ≤ (nDs (H h) (H (σ j))) := by have hc := c_4; rw [nI_le' (by omega) (by omega)] at hc; exact hc
        refine zs_iinc (v := (nI (j + 1))) (lv' := [(7, .int (nI (j + 1))), (8, .int (nI (nDs (H h) (H (σ j))))), (0, .ref mo), (1, .int (nI i)), (2, .int (nI k)), (3, .int fr), (4, .int (nI (pGw H σ k h))), (5, .int (nI h)), (6, .int (nI (rNe H σ h j)))]) dX13_tryHooks_72 rfl (nI_add _ 1) (Nat.le_of_ble_eq_true rfl) rfl ?_
        refine zs_goto (tgt := 28) dX13_tryHooks_75 (by decide) ?_
        have ek : rNe H σ h (j + 1) = rNe H σ h j := Nat.min_eq_left (by omega)
        have hgo := ih (j + 1) (by omega)
        rw [ek] at hgo
        refine zs_lv [2, 3, 4, 5, 6, 7, 8, 0] rfl ?_
        exact hgo
      · have c_4 : ¬ ((rNe H σ h j) ≤ (nDs (H h) (H (σ j)))) := by have hc := c_4; rw [nI_le' (by omega) (by omega)] at hc; exact hc
        refine zs_iload dX13_tryHooks_68 rfl ?_
        refine zs_istore (lv' := [(6, .int (nI (nDs (H h) (H (σ j))))), (8, .int (nI (nDs (H h) (H (σ j))))), (0, .ref mo), (1, .int (nI i)), (2, .int (nI k)), (3, .int fr), (4, .int (nI (pGw H σ k h))), (5, .int (nI h)), (7, .int (nI j))]) dX13_tryHooks_70 (Nat.le_of_ble_eq_true rfl) rfl ?_
        refine zs_iinc (v := (nI (j + 1))) (lv' := [(7, .int (nI (j + 1))), (6, .int (nI (nDs (H h) (H (σ j))))), (8, .int (nI (nDs (H h) (H (σ j))))), (0, .ref mo), (1, .int (nI i)), (2, .int (nI k)), (3, .int fr), (4, .int (nI (pGw H σ k h))), (5, .int (nI h))]) dX13_tryHooks_72 rfl (nI_add _ 1) (Nat.le_of_ble_eq_true rfl) rfl ?_
        refine zs_goto (tgt := 28) dX13_tryHooks_75 (by decide) ?_
        have ek : rNe H σ h (j + 1) = nDs (H h) (H (σ j)) := Nat.min_eq_right (by omega)
        have hgo := ih (j + 1) (by omega)
        rw [ek] at hgo
        refine zs_lv [3, 4, 5, 6, 7, 8, 1, 0] rfl ?_
        exact hgo
set_option maxRecDepth 100000 in
theorem lp_th2 {l : Launch} {dd : Nat} {Po : zPo} {K0 : zK} {h0 : List va_E} {Xo : zK → Prop} {Gc : zG → Prop} (mo : Nat) (e : Nat → Nat) (g : Nat → Int32) (w : Int64) (H : Nat → Nat) (n k : Nat) (σ : Nat → Nat) (hk hb : Nat → Nat) (fr : Int32) (i : Nat) (hn : n ≤ 12) (hkk : 1 ≤ k ∧ k ≤ 6) (hH : ∀ h, h < n → H h ≤ 99) (hσ : ∀ p, p < k → σ p < n) (h61 : g 61 = nI n) (hsk : ∀ p, p < k → hk p = H (σ p)) (hkx : zS (l, mX13_tryHooks, dd, Po, K0, h0, Xo, Gc) 0 0 95 [(0, .ref mo), (1, .int (nI i)), (2, .int (nI k)), (3, .int fr), (4, .int (nI (pGw H σ k n)))] [] [(mo, .inr (11, fMo e g w)), ((e 57), .inl (0, 12, .inl (nF H))), ((e 58), .inl (0, 6, .inl (nF hk))), ((e 59), .inl (0, 6, .inl (nF hb)))]) : ∀ (q h : Nat), h + q = n → zS (l, mX13_tryHooks, dd, Po, K0, h0, Xo, Gc) 0 0 11 [(0, .ref mo), (1, .int (nI i)), (2, .int (nI k)), (3, .int fr), (4, .int (nI (pGw H σ k h))), (5, .int (nI h))] [] [(mo, .inr (11, fMo e g w)), ((e 57), .inl (0, 12, .inl (nF H))), ((e 58), .inl (0, 6, .inl (nF hk))), ((e 59), .inl (0, 6, .inl (nF hb)))] := by
  intro q
  induction q with
  | zero =>
    intro h hi
    refine zs_iload dX13_tryHooks_11 rfl ?_
    refine zs_aload_n dX13_tryHooks_13 rfl rfl ?_
    refine zs_get 0 dX13_tryHooks_14 zf_RX13_411 rfl (v := .int (g 61)) rfl ?_
    refine zs_as (y := nI n) h61 ?_
    refine zs_icmp_ge (tgt := 95) dX13_tryHooks_17 (by decide) (fun c_1 => ?_) (fun c_1 => (c_1 (by rw [show h = n by omega]; exact Int32.le_refl _) : False).elim)
    rw [show h = n by omega]
    refine zs_lv [0, 1, 2, 3, 4] rfl ?_
    exact hkx
  | succ q ih =>
    intro h hi
    refine zs_iload dX13_tryHooks_11 rfl ?_
    refine zs_aload_n dX13_tryHooks_13 rfl rfl ?_
    refine zs_get 0 dX13_tryHooks_14 zf_RX13_411 rfl (v := .int (g 61)) rfl ?_
    refine zs_as (y := nI n) h61 ?_
    refine zs_icmp_ge (tgt := 95) dX13_tryHooks_17 (by decide) (fun c_1 => (nI_ge (show h < n by omega) (by omega) c_1 : False).elim) (fun c_1 => ?_)
    refine zs_sipush (v := nI 1000) dX13_tryHooks_20 (by decide) ?_
    refine zs_istore (lv' := [(6, .int (nI 1000)), (0, .ref mo), (1, .int (nI i)), (2, .int (nI k)), (3, .int fr), (4, .int (nI (pGw H σ k h))), (5, .int (nI h))]) dX13_tryHooks_23 (Nat.le_of_ble_eq_true rfl) rfl ?_
    refine zs_iconst (v := nI 0) dX13_tryHooks_25 (by decide) ?_
    refine zs_istore (lv' := [(7, .int (nI 0)), (6, .int (nI 1000)), (0, .ref mo), (1, .int (nI i)), (2, .int (nI k)), (3, .int fr), (4, .int (nI (pGw H σ k h))), (5, .int (nI h))]) dX13_tryHooks_26 (Nat.le_of_ble_eq_true rfl) rfl ?_
    refine zs_lv [2, 3, 4, 5, 6, 7, 1, 0] rfl ?_
    refine lp_th1 mo e g w H n k σ hk hb fr i h (by omega) hn hkk hH hσ h61 hsk ?_ k 0 (Nat.zero_add _)
    rw [show rNe H σ h k = pNe H σ h k from by have := rNe_p (H := H) (c := σ) (h := h) (n := k) (fun x hx => by have := hH h (by omega); have := hH (σ x) (hσ x hx); unfold nDs; omega) (k - 1) (by omega); rwa [show k - 1 + 1 = k by omega] at this]
    have hgw := pGw_b (H := H) (c := σ) hkk.1 h (fun x hx => hH x (by omega)) (hH _ (hσ 0 (by omega)))
    have hne := pNe_b (k := k) (H := H) (c := σ) (h := h) ⟨hH h (by omega), hH _ (hσ 0 (by omega))⟩ (k - 1)
    rw [show k - 1 + 1 = k by omega] at hne
    refine zs_iload dX13_tryHooks_78 rfl ?_
    refine zs_iload dX13_tryHooks_80 rfl ?_
    refine zs_icmp_le (tgt := 89) dX13_tryHooks_82 (by decide) (fun c_2 => ?_) (fun c_2 => ?_)
    · have c_2 : (pNe H σ h k) ≤ (pGw H σ k h) := by have hc := c_2; rw [nI_le' (by omega) (by omega)] at hc; exact hc
      refine zs_iinc (v := (nI (h + 1))) (lv' := [(5, .int (nI (h + 1))), (0, .ref mo), (1, .int (nI i)), (2, .int (nI k)), (3, .int fr), (4, .int (nI (pGw H σ k h))), (6, .int (nI (pNe H σ h k)))]) dX13_tryHooks_89 rfl (nI_add _ 1) (Nat.le_of_ble_eq_true rfl) rfl ?_
      refine zs_goto (tgt := 11) dX13_tryHooks_92 (by decide) ?_
      have ek : pGw H σ k (h + 1) = pGw H σ k h := Nat.max_eq_left (by omega)
      have hgo := ih (h + 1) (by omega)
      rw [ek] at hgo
      refine zs_lv [1, 2, 3, 4, 5, 0] rfl ?_
      exact hgo
    · have c_2 : ¬ ((pNe H σ h k) ≤ (pGw H σ k h)) := by have hc := c_2; rw [nI_le' (by omega) (by omega)] at hc; exact hc
      refine zs_iload dX13_tryHooks_85 rfl ?_
      refine zs_istore (lv' := [(4, .int (nI (pNe H σ h k))), (0, .ref mo), (1, .int (nI i)), (2, .int (nI k)), (3, .int fr), (5, .int (nI h)), (6, .int (nI (pNe H σ h k)))]) dX13_tryHooks_87 (Nat.le_of_ble_eq_true rfl) rfl ?_
      refine zs_iinc (v := (nI (h + 1))) (lv' := [(5, .int (nI (h + 1))), (4, .int (nI (pNe H σ h k))), (0, .ref mo), (1, .int (nI i)), (2, .int (nI k)), (3, .int fr), (6, .int (nI (pNe H σ h k)))]) dX13_tryHooks_89 rfl (nI_add _ 1) (Nat.le_of_ble_eq_true rfl) rfl ?_
      refine zs_goto (tgt := 11) dX13_tryHooks_92 (by decide) ?_
      have ek : pGw H σ k (h + 1) = pNe H σ h k := Nat.max_eq_right (by omega)
      have hgo := ih (h + 1) (by omega)
      rw [ek] at hgo
      refine zs_lv [2, 3, 4, 5, 1, 0] rfl ?_
      exact hgo
set_option maxRecDepth 100000 in
theorem lp_th3 {l : Launch} {dd : Nat} {Po : zPo} {K0 : zK} {h0 : List va_E} {Xo : zK → Prop} {Gc : zG → Prop} (mo : Nat) (e : Nat → Nat) (g : Nat → Int32) (w : Int64) (H : Nat → Nat) (n k : Nat) (σ : Nat → Nat) (hk hb : Nat → Nat) (i : Nat) (hkk : 1 ≤ k ∧ k ≤ 6) (hkx : zS (l, mX13_tryHooks, dd, Po, K0, h0, Xo, Gc) 0 0 148 [(0, .ref mo)] [] [(mo, .inr (11, fMo e g w)), ((e 57), .inl (0, 12, .inl (nF H))), ((e 58), .inl (0, 6, .inl (nF hk))), ((e 59), .inl (0, 6, .inl (nF (nCl hk hb k))))]) : ∀ (q j : Nat), j + q = k → zS (l, mX13_tryHooks, dd, Po, K0, h0, Xo, Gc) 0 0 122 [(0, .ref mo), (1, .int (nI i)), (2, .int (nI k)), (5, .int (nI j))] [] [(mo, .inr (11, fMo e g w)), ((e 57), .inl (0, 12, .inl (nF H))), ((e 58), .inl (0, 6, .inl (nF hk))), ((e 59), .inl (0, 6, .inl (nF (nCl hk hb j))))] := by
  intro q
  induction q with
  | zero =>
    intro j hi
    refine zs_iload dX13_tryHooks_122 rfl ?_
    refine zs_iload_n dX13_tryHooks_124 rfl ?_
    refine zs_icmp_ge (tgt := 148) dX13_tryHooks_125 (by decide) (fun c_1 => ?_) (fun c_1 => (c_1 (by rw [show j = k by omega]; exact Int32.le_refl _) : False).elim)
    rw [show j = k by omega]
    refine zs_lv [0] rfl ?_
    exact hkx
  | succ q ih =>
    intro j hi
    refine zs_iload dX13_tryHooks_122 rfl ?_
    refine zs_iload_n dX13_tryHooks_124 rfl ?_
    refine zs_icmp_ge (tgt := 148) dX13_tryHooks_125 (by decide) (fun c_1 => (nI_ge (show j < k by omega) (by omega) c_1 : False).elim) (fun c_1 => ?_)
    refine zs_aload_n dX13_tryHooks_128 rfl rfl ?_
    refine zs_get 0 dX13_tryHooks_129 zf_RX13_99 rfl (v := .ref (e 59)) rfl ?_
    refine zs_iload dX13_tryHooks_132 rfl ?_
    refine zs_aload_n dX13_tryHooks_134 rfl rfl ?_
    refine zs_get 0 dX13_tryHooks_135 zf_RX13_96 rfl (v := .ref (e 58)) rfl ?_
    refine zs_iload dX13_tryHooks_138 rfl ?_
    refine zs_iald 2 dX13_tryHooks_140 rfl (vp_in_nI (by omega) (by omega)) ?_
    refine zs_as (y := nI (hk j)) (by rw [nI_c (n := j) (by omega)]; rfl) ?_
    refine zs_iast 3 dX13_tryHooks_141 rfl (vp_in_nI (by omega) (by omega)) ?_
    rw [nI_c (n := j) (by omega), nF_u]
    show zS _ _ _ _ _ _ [(mo, .inr (11, fMo e g w)), ((e 57), .inl (0, 12, .inl (nF H))), ((e 58), .inl (0, 6, .inl (nF hk))), ((e 59), .inl (0, 6, .inl (nF (un (nCl hk hb j) j (hk j)))))]
    refine zs_iinc (v := (nI (j + 1))) (lv' := [(5, .int (nI (j + 1))), (0, .ref mo), (1, .int (nI i)), (2, .int (nI k))]) dX13_tryHooks_142 rfl (nI_add _ 1) (Nat.le_of_ble_eq_true rfl) rfl ?_
    refine zs_goto (tgt := 122) dX13_tryHooks_145 (by decide) ?_
    refine zs_lv [1, 2, 3, 0] rfl ?_
    rw [nCl_u (new := hk) (old := hb) (k := j) rfl]
    exact ih (j + 1) (by omega)
