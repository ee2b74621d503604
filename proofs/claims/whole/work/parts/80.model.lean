/-! ===== the reference: lines of a yard ===== -/
/-- the lines that may be told once, in the reference's bits -/
def hdM (t : Nat) : Nat := (t &&& 8) + 16 * ((t >>> 1) &&& 1) + 32 * ((t >>> 2) &&& 1) + 64 * ((t >>> 4) &&& 1) + 128 * ((t >>> 5) &&& 1) + 256 * ((t >>> 6) &&& 1) + 512 * (t &&& 1)
/-- what the reference has read so far -/
def rdR (D : zYd) (g : Nat → Int32) (rf : Nat → Int32) (rn : Nat → Int64) : Prop := yR D rf ∧ (∀ j, j < D.1 0 → rn j = nL (D.2.2.1 j)) ∧ g 23 = nI (hdM (D.1 18))
theorem mFr_fa {g g1 : Nat → Int32} {k : Nat} {t : zTk} (h : mFr [5, 6, 7, 8, 9, 13, 23] g g1) (h1 : 10 ∈ [5, 6, 7, 8, 9, 10, 11, 13, 23]) (h2 : 11 ∈ [5, 6, 7, 8, 9, 10, 11, 13, 23]) : mFr [5, 6, 7, 8, 9, 10, 11, 13, 23] g (mFa g1 k t) := mFr_u (mFr_u (fun j hj => h j (fun hq => hj ((by decide : ∀ x ∈ [5, 6, 7, 8, 9, 13, 23], x ∈ [5, 6, 7, 8, 9, 10, 11, 13, 23]) j hq))) h1) h2
theorem dX13_readMan_0 : decode cX13_readMan 0 = .ok (.aload_n 0, 1) := by decide +kernel
theorem dX13_readMan_1 : decode cX13_readMan 1 = .ok (.getfield 16, 3) := by decide +kernel
theorem dX13_readMan_4 : decode cX13_readMan 4 = .ok (.iconst 0, 1) := by decide +kernel
theorem dX13_readMan_5 : decode cX13_readMan 5 = .ok (.iaload, 1) := by decide +kernel
theorem dX13_readMan_6 : decode cX13_readMan 6 = .ok (.istore_n 1, 1) := by decide +kernel
theorem dX13_readMan_7 : decode cX13_readMan 7 = .ok (.iload_n 1, 1) := by decide +kernel
theorem dX13_readMan_8 : decode cX13_readMan 8 = .ok (.bipush 12, 2) := by decide +kernel
theorem dX13_readMan_10 : decode cX13_readMan 10 = .ok (.if_icmp .ne 9, 3) := by decide +kernel
theorem dX13_readMan_13 : decode cX13_readMan 13 = .ok (.aload_n 0, 1) := by decide +kernel
theorem dX13_readMan_14 : decode cX13_readMan 14 = .ok (.iconst 4, 1) := by decide +kernel
theorem dX13_readMan_15 : decode cX13_readMan 15 = .ok (.invokevirtual 216, 3) := by decide +kernel
theorem dX13_readMan_18 : decode cX13_readMan 18 = .ok (.ireturn, 1) := by decide +kernel
theorem dX13_readMan_19 : decode cX13_readMan 19 = .ok (.aload_n 0, 1) := by decide +kernel
theorem dX13_readMan_20 : decode cX13_readMan 20 = .ok (.invokevirtual 226, 3) := by decide +kernel
theorem dX13_readMan_23 : decode cX13_readMan 23 = .ok (.aload_n 0, 1) := by decide +kernel
theorem dX13_readMan_24 : decode cX13_readMan 24 = .ok (.invokevirtual 247, 3) := by decide +kernel
theorem dX13_readMan_27 : decode cX13_readMan 27 = .ok (.ifCond .ne 9, 3) := by decide +kernel
theorem dX13_readMan_30 : decode cX13_readMan 30 = .ok (.aload_n 0, 1) := by decide +kernel
theorem dX13_readMan_31 : decode cX13_readMan 31 = .ok (.iconst 1, 1) := by decide +kernel
theorem dX13_readMan_32 : decode cX13_readMan 32 = .ok (.invokevirtual 216, 3) := by decide +kernel
theorem dX13_readMan_35 : decode cX13_readMan 35 = .ok (.ireturn, 1) := by decide +kernel
theorem dX13_readMan_36 : decode cX13_readMan 36 = .ok (.iconst 0, 1) := by decide +kernel
theorem dX13_readMan_37 : decode cX13_readMan 37 = .ok (.istore_n 2, 1) := by decide +kernel
theorem dX13_readMan_38 : decode cX13_readMan 38 = .ok (.iload_n 2, 1) := by decide +kernel
theorem dX13_readMan_39 : decode cX13_readMan 39 = .ok (.iload_n 1, 1) := by decide +kernel
theorem dX13_readMan_40 : decode cX13_readMan 40 = .ok (.if_icmp .ge 29, 3) := by decide +kernel
theorem dX13_readMan_43 : decode cX13_readMan 43 = .ok (.aload_n 0, 1) := by decide +kernel
theorem dX13_readMan_44 : decode cX13_readMan 44 = .ok (.getfield 29, 3) := by decide +kernel
theorem dX13_readMan_47 : decode cX13_readMan 47 = .ok (.iload_n 2, 1) := by decide +kernel
theorem dX13_readMan_48 : decode cX13_readMan 48 = .ok (.laload, 1) := by decide +kernel
theorem dX13_readMan_49 : decode cX13_readMan 49 = .ok (.aload_n 0, 1) := by decide +kernel
theorem dX13_readMan_50 : decode cX13_readMan 50 = .ok (.getfield 183, 3) := by decide +kernel
theorem dX13_readMan_53 : decode cX13_readMan 53 = .ok (.lcmp, 1) := by decide +kernel
theorem dX13_readMan_54 : decode cX13_readMan 54 = .ok (.ifCond .ne 9, 3) := by decide +kernel
theorem dX13_readMan_57 : decode cX13_readMan 57 = .ok (.aload_n 0, 1) := by decide +kernel
theorem dX13_readMan_58 : decode cX13_readMan 58 = .ok (.iconst 3, 1) := by decide +kernel
theorem dX13_readMan_59 : decode cX13_readMan 59 = .ok (.invokevirtual 216, 3) := by decide +kernel
theorem dX13_readMan_62 : decode cX13_readMan 62 = .ok (.ireturn, 1) := by decide +kernel
theorem dX13_readMan_63 : decode cX13_readMan 63 = .ok (.iinc 2 1, 3) := by decide +kernel
theorem dX13_readMan_66 : decode cX13_readMan 66 = .ok (.goto (-28), 3) := by decide +kernel
theorem dX13_readMan_69 : decode cX13_readMan 69 = .ok (.aload_n 0, 1) := by decide +kernel
theorem dX13_readMan_70 : decode cX13_readMan 70 = .ok (.getfield 29, 3) := by decide +kernel
theorem dX13_readMan_73 : decode cX13_readMan 73 = .ok (.iload_n 1, 1) := by decide +kernel
theorem dX13_readMan_74 : decode cX13_readMan 74 = .ok (.aload_n 0, 1) := by decide +kernel
theorem dX13_readMan_75 : decode cX13_readMan 75 = .ok (.getfield 183, 3) := by decide +kernel
theorem dX13_readMan_78 : decode cX13_readMan 78 = .ok (.lastore, 1) := by decide +kernel
theorem dX13_readMan_79 : decode cX13_readMan 79 = .ok (.aload_n 0, 1) := by decide +kernel
theorem dX13_readMan_80 : decode cX13_readMan 80 = .ok (.invokevirtual 226, 3) := by decide +kernel
theorem dX13_readMan_83 : decode cX13_readMan 83 = .ok (.iconst 0, 1) := by decide +kernel
theorem dX13_readMan_84 : decode cX13_readMan 84 = .ok (.istore_n 2, 1) := by decide +kernel
theorem dX13_readMan_85 : decode cX13_readMan 85 = .ok (.iload_n 2, 1) := by decide +kernel
theorem dX13_readMan_86 : decode cX13_readMan 86 = .ok (.iconst 2, 1) := by decide +kernel
theorem dX13_readMan_87 : decode cX13_readMan 87 = .ok (.if_icmp .gt 48, 3) := by decide +kernel
theorem dX13_readMan_90 : decode cX13_readMan 90 = .ok (.aload_n 0, 1) := by decide +kernel
theorem dX13_readMan_91 : decode cX13_readMan 91 = .ok (.iconst 1, 1) := by decide +kernel
theorem dX13_readMan_92 : decode cX13_readMan 92 = .ok (.iload_n 2, 1) := by decide +kernel
theorem dX13_readMan_93 : decode cX13_readMan 93 = .ok (.iconst 2, 1) := by decide +kernel
theorem dX13_readMan_94 : decode cX13_readMan 94 = .ok (.if_icmp .ne 8, 3) := by decide +kernel
theorem dX13_readMan_97 : decode cX13_readMan 97 = .ok (.bipush 99, 2) := by decide +kernel
theorem dX13_readMan_99 : decode cX13_readMan 99 = .ok (.goto 5, 3) := by decide +kernel
theorem dX13_readMan_102 : decode cX13_readMan 102 = .ok (.bipush 9, 2) := by decide +kernel
theorem dX13_readMan_104 : decode cX13_readMan 104 = .ok (.invokevirtual 251, 3) := by decide +kernel
theorem dX13_readMan_107 : decode cX13_readMan 107 = .ok (.ifCond .ne 5, 3) := by decide +kernel
theorem dX13_readMan_110 : decode cX13_readMan 110 = .ok (.iconst 0, 1) := by decide +kernel
theorem dX13_readMan_111 : decode cX13_readMan 111 = .ok (.ireturn, 1) := by decide +kernel
theorem dX13_readMan_112 : decode cX13_readMan 112 = .ok (.aload_n 0, 1) := by decide +kernel
theorem dX13_readMan_113 : decode cX13_readMan 113 = .ok (.getfield 16, 3) := by decide +kernel
theorem dX13_readMan_116 : decode cX13_readMan 116 = .ok (.bipush 20, 2) := by decide +kernel
theorem dX13_readMan_118 : decode cX13_readMan 118 = .ok (.iconst 3, 1) := by decide +kernel
theorem dX13_readMan_119 : decode cX13_readMan 119 = .ok (.iload_n 1, 1) := by decide +kernel
theorem dX13_readMan_120 : decode cX13_readMan 120 = .ok (.imul, 1) := by decide +kernel
theorem dX13_readMan_121 : decode cX13_readMan 121 = .ok (.iadd, 1) := by decide +kernel
theorem dX13_readMan_122 : decode cX13_readMan 122 = .ok (.iload_n 2, 1) := by decide +kernel
theorem dX13_readMan_123 : decode cX13_readMan 123 = .ok (.iadd, 1) := by decide +kernel
theorem dX13_readMan_124 : decode cX13_readMan 124 = .ok (.aload_n 0, 1) := by decide +kernel
theorem dX13_readMan_125 : decode cX13_readMan 125 = .ok (.getfield 223, 3) := by decide +kernel
theorem dX13_readMan_128 : decode cX13_readMan 128 = .ok (.iastore, 1) := by decide +kernel
theorem dX13_readMan_129 : decode cX13_readMan 129 = .ok (.iinc 2 1, 3) := by decide +kernel
theorem dX13_readMan_132 : decode cX13_readMan 132 = .ok (.goto (-47), 3) := by decide +kernel
theorem dX13_readMan_135 : decode cX13_readMan 135 = .ok (.aload_n 0, 1) := by decide +kernel
theorem dX13_readMan_136 : decode cX13_readMan 136 = .ok (.getfield 16, 3) := by decide +kernel
theorem dX13_readMan_139 : decode cX13_readMan 139 = .ok (.iconst 0, 1) := by decide +kernel
theorem dX13_readMan_140 : decode cX13_readMan 140 = .ok (.dup2, 1) := by decide +kernel
theorem dX13_readMan_141 : decode cX13_readMan 141 = .ok (.iaload, 1) := by decide +kernel
theorem dX13_readMan_142 : decode cX13_readMan 142 = .ok (.iconst 1, 1) := by decide +kernel
theorem dX13_readMan_143 : decode cX13_readMan 143 = .ok (.iadd, 1) := by decide +kernel
theorem dX13_readMan_144 : decode cX13_readMan 144 = .ok (.iastore, 1) := by decide +kernel
theorem dX13_readMan_145 : decode cX13_readMan 145 = .ok (.iconst 1, 1) := by decide +kernel
theorem dX13_readMan_146 : decode cX13_readMan 146 = .ok (.ireturn, 1) := by decide +kernel
set_option maxRecDepth 100000 in
theorem lp_mnm {l : Launch} {dd : Nat} {Po : zPo} {K0 : zK} {h0 : List va_E} {Xo : zK → Prop} {Gc : zG → Prop} (mo : Nat) (e : Nat → Nat) (bt : Nat → Nat) (D : zYd) (rf : Nat → Int32) (rn : Nat → Int64) (g1 : Nat → Int32) (w1 : Int64) (v : Nat) (hv : v < 400000000) (hw1 : w1 = nL v) (h12 : D.1 0 ≤ 12) (hnm : ∀ j, D.2.2.1 j < 400000000) (hrn : ∀ j, j < D.1 0 → rn j = nL (D.2.2.1 j)) (W : Option Nat) (hf : ∀ i, i < D.1 0 → W = some i → zS (l, mX13_readMan, dd, Po, K0, h0, Xo, Gc) 0 0 57 [(0, .ref mo), (1, .int (nI (D.1 0))), (2, .int (nI i))] [] [(mo, .inr (11, fMo e g1 w1)), ((e 1), .inl (0, 740, .inl (nF bt))), ((e 15), .inl (0, 200, .inl rf)), ((e 19), .inl (2, 12, .inr (.inl rn)))]) (hz : W = none → zS (l, mX13_readMan, dd, Po, K0, h0, Xo, Gc) 0 0 69 [(0, .ref mo), (1, .int (nI (D.1 0)))] [] [(mo, .inr (11, fMo e g1 w1)), ((e 1), .inl (0, 740, .inl (nF bt))), ((e 15), .inl (0, 200, .inl rf)), ((e 19), .inl (2, 12, .inr (.inl rn)))]) : ∀ (m i : Nat), i + m = D.1 0 → mFind D.2.2.1 v m i = W → zS (l, mX13_readMan, dd, Po, K0, h0, Xo, Gc) 0 0 38 [(0, .ref mo), (1, .int (nI (D.1 0))), (2, .int (nI i))] [] [(mo, .inr (11, fMo e g1 w1)), ((e 1), .inl (0, 740, .inl (nF bt))), ((e 15), .inl (0, 200, .inl rf)), ((e 19), .inl (2, 12, .inr (.inl rn)))] := by
  intro m
  induction m with
  | zero =>
    intro i hi hWW
    refine zs_iload_n dX13_readMan_38 rfl ?_
    refine zs_iload_n dX13_readMan_39 rfl ?_
    refine zs_icmp_ge (tgt := 69) dX13_readMan_40 (by decide) (fun c_1 => ?_) (fun c_1 => (c_1 (by rw [show i = D.1 0 by omega]; exact Int32.le_refl _) : False).elim)
    refine zs_lv [0, 1] rfl ?_
    exact hz hWW.symm
  | succ m ih =>
    intro i hi hWW
    refine zs_iload_n dX13_readMan_38 rfl ?_
    refine zs_iload_n dX13_readMan_39 rfl ?_
    refine zs_icmp_ge (tgt := 69) dX13_readMan_40 (by decide) (fun c_1 => (nI_ge (show i < D.1 0 by omega) (by omega) c_1 : False).elim) (fun c_1 => ?_)
    refine zs_aload_n dX13_readMan_43 rfl rfl ?_
    refine zs_get 0 dX13_readMan_44 zf_RX13_29 rfl (v := .ref (e 19)) rfl ?_
    refine zs_iload_n dX13_readMan_47 rfl ?_
    refine zs_lald 3 dX13_readMan_48 rfl (vp_in_nI (by omega) (by omega)) ?_
    rw [nI_c (n := i) (by omega)]
    refine zs_aload_n dX13_readMan_49 rfl rfl ?_
    refine zs_get 0 dX13_readMan_50 zf_RX13_183 rfl (v := .long w1) rfl ?_
    refine zs_lcmp dX13_readMan_53 ?_
    refine zs_if_ne (tgt := 63) dX13_readMan_54 (by decide) (fun c_2 => ?_) (fun c_2 => ?_)
    · refine zs_iinc (v := (nI (i + 1))) (lv' := [(2, .int (nI (i + 1))), (0, .ref mo), (1, .int (nI (D.1 0)))]) dX13_readMan_63 rfl (nI_add _ 1) (Nat.le_of_ble_eq_true rfl) rfl ?_
      refine zs_goto (tgt := 38) dX13_readMan_66 (by decide) ?_
      refine zs_lv [1, 2, 0] rfl ?_
      exact ih (i + 1) (by omega) (by rw [← hWW, mFind, if_neg (fun h => c_2 (lg_cmp_0.mpr (by rw [hrn i (by omega), h, hw1])))])
    · refine zs_lv [0, 1, 2] rfl ?_
      exact hf i (by omega) (by rw [← hWW, mFind, if_pos ((nL_i (by have := hnm i; omega) (by omega)).mp (by rw [← hrn i (by omega), ← hw1]; exact lg_cmp_0.mp c_2))])
