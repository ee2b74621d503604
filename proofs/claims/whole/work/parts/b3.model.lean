/-! ===== the reference: a tick of a row ===== -/
theorem shf_u0 {f : Nat → Nat} {k : Nat} : un (shf f 0 k) k (shf f 0 k (k + 1)) = shf f 0 (k + 1) := by
  have h1 : shf f 0 k (k + 1) = f (0 + k + 1) := by rw [show k + 1 = 0 + k + 1 by omega]; exact shf_at
  have h2 := shf_u (f := f) (a := 0) (k := k) h1
  rwa [Nat.zero_add] at h2
/-- what bounds the reference's numbers -/
theorem tR_b {D : zYd} {c M : zRs} {P t j k : Nat} (h : tR D c M) (hI : cIn P t j c) (hP : P ≤ 30) (ht : t ≤ 3600) (hk : k < c.1 1) : (M.1 33 = c.1 1 ∧ 2 ≤ M.1 33 ∧ M.1 33 ≤ 12) ∧ M.2 26 k ≤ 20 ∧ M.2 27 k ≤ 3600 ∧ M.2 29 k ≤ 30 ∧ M.2 24 k < D.1 0 ∧ M.1 35 ≤ 9999 ∧ M.1 37 ≤ 30 ∧ (¬ c.2 3 k = 0 → M.1 38 < 30 ∧ (k + 1 < M.1 33 → M.2 29 (k + 1) < 30)) ∧ M.2 25 k = c.2 3 k ∧ c.2 3 k ≤ 200 ∧ M.1 38 ≤ 30 ∧ M.2 30 k ≤ 30 := by
  have haw := tR_away h
  obtain ⟨⟨n33, n35, n36, n37, n39, n40, n41, n42⟩, h2, hC, h4⟩ := h
  obtain ⟨i1, i2, i3, i4, i5, i6, i7, i8⟩ := hI
  obtain ⟨k1, k2, k3, k4, k5, k6, k7, k8, k9⟩ := h2 k hk
  have hb := i2 k (by omega)
  unfold cPails at i8
  refine ⟨⟨n33, by omega, by omega⟩, by rw [k5]; split <;> omega, by omega, by omega, by rw [k3]; exact k1, by omega, by omega, fun hr => ?_, k4, by omega, by omega, by omega⟩
  have hbz : bz (c.2 3) k = 1 := if_neg hr
  have hb2 := nSum_le (f := bz (c.2 3)) (k := k) (c.1 1) hk
  refine ⟨by omega, fun h1 => ?_⟩
  have hst := nSum_le (f := c.2 8) (k := k + 1) (c.1 1) (by omega)
  have := (h2 (k + 1) (by omega)).2.2.2.2.2.2.1
  omega
theorem dX13_rowTick_0 : decode cX13_rowTick 0 = .ok (.aload_n 0, 1) := by decide +kernel
theorem dX13_rowTick_1 : decode cX13_rowTick 1 = .ok (.getfield 313, 3) := by decide +kernel
theorem dX13_rowTick_4 : decode cX13_rowTick 4 = .ok (.ifCond .le 69, 3) := by decide +kernel
theorem dX13_rowTick_7 : decode cX13_rowTick 7 = .ok (.aload_n 0, 1) := by decide +kernel
theorem dX13_rowTick_8 : decode cX13_rowTick 8 = .ok (.getfield 60, 3) := by decide +kernel
theorem dX13_rowTick_11 : decode cX13_rowTick 11 = .ok (.iconst 0, 1) := by decide +kernel
theorem dX13_rowTick_12 : decode cX13_rowTick 12 = .ok (.iaload, 1) := by decide +kernel
theorem dX13_rowTick_13 : decode cX13_rowTick 13 = .ok (.aload_n 0, 1) := by decide +kernel
theorem dX13_rowTick_14 : decode cX13_rowTick 14 = .ok (.getfield 307, 3) := by decide +kernel
theorem dX13_rowTick_17 : decode cX13_rowTick 17 = .ok (.if_icmp .gt 56, 3) := by decide +kernel
theorem dX13_rowTick_20 : decode cX13_rowTick 20 = .ok (.aload_n 0, 1) := by decide +kernel
theorem dX13_rowTick_21 : decode cX13_rowTick 21 = .ok (.dup, 1) := by decide +kernel
theorem dX13_rowTick_22 : decode cX13_rowTick 22 = .ok (.getfield 310, 3) := by decide +kernel
theorem dX13_rowTick_25 : decode cX13_rowTick 25 = .ok (.iconst 1, 1) := by decide +kernel
theorem dX13_rowTick_26 : decode cX13_rowTick 26 = .ok (.iadd, 1) := by decide +kernel
theorem dX13_rowTick_27 : decode cX13_rowTick 27 = .ok (.putfield 310, 3) := by decide +kernel
theorem dX13_rowTick_30 : decode cX13_rowTick 30 = .ok (.aload_n 0, 1) := by decide +kernel
theorem dX13_rowTick_31 : decode cX13_rowTick 31 = .ok (.dup, 1) := by decide +kernel
theorem dX13_rowTick_32 : decode cX13_rowTick 32 = .ok (.getfield 313, 3) := by decide +kernel
theorem dX13_rowTick_35 : decode cX13_rowTick 35 = .ok (.iconst 1, 1) := by decide +kernel
theorem dX13_rowTick_36 : decode cX13_rowTick 36 = .ok (.isub, 1) := by decide +kernel
theorem dX13_rowTick_37 : decode cX13_rowTick 37 = .ok (.putfield 313, 3) := by decide +kernel
theorem dX13_rowTick_40 : decode cX13_rowTick 40 = .ok (.iconst 0, 1) := by decide +kernel
theorem dX13_rowTick_41 : decode cX13_rowTick 41 = .ok (.istore_n 1, 1) := by decide +kernel
theorem dX13_rowTick_42 : decode cX13_rowTick 42 = .ok (.iload_n 1, 1) := by decide +kernel
theorem dX13_rowTick_43 : decode cX13_rowTick 43 = .ok (.aload_n 0, 1) := by decide +kernel
theorem dX13_rowTick_44 : decode cX13_rowTick 44 = .ok (.getfield 313, 3) := by decide +kernel
theorem dX13_rowTick_47 : decode cX13_rowTick 47 = .ok (.if_icmp .ge 23, 3) := by decide +kernel
theorem dX13_rowTick_50 : decode cX13_rowTick 50 = .ok (.aload_n 0, 1) := by decide +kernel
theorem dX13_rowTick_51 : decode cX13_rowTick 51 = .ok (.getfield 60, 3) := by decide +kernel
theorem dX13_rowTick_54 : decode cX13_rowTick 54 = .ok (.iload_n 1, 1) := by decide +kernel
theorem dX13_rowTick_55 : decode cX13_rowTick 55 = .ok (.aload_n 0, 1) := by decide +kernel
theorem dX13_rowTick_56 : decode cX13_rowTick 56 = .ok (.getfield 60, 3) := by decide +kernel
theorem dX13_rowTick_59 : decode cX13_rowTick 59 = .ok (.iload_n 1, 1) := by decide +kernel
theorem dX13_rowTick_60 : decode cX13_rowTick 60 = .ok (.iconst 1, 1) := by decide +kernel
theorem dX13_rowTick_61 : decode cX13_rowTick 61 = .ok (.iadd, 1) := by decide +kernel
theorem dX13_rowTick_62 : decode cX13_rowTick 62 = .ok (.iaload, 1) := by decide +kernel
theorem dX13_rowTick_63 : decode cX13_rowTick 63 = .ok (.iastore, 1) := by decide +kernel
theorem dX13_rowTick_64 : decode cX13_rowTick 64 = .ok (.iinc 1 1, 3) := by decide +kernel
theorem dX13_rowTick_67 : decode cX13_rowTick 67 = .ok (.goto (-25), 3) := by decide +kernel
theorem dX13_rowTick_70 : decode cX13_rowTick 70 = .ok (.goto (-70), 3) := by decide +kernel
theorem dX13_rowTick_73 : decode cX13_rowTick 73 = .ok (.aload_n 0, 1) := by decide +kernel
theorem dX13_rowTick_74 : decode cX13_rowTick 74 = .ok (.getfield 304, 3) := by decide +kernel
theorem dX13_rowTick_77 : decode cX13_rowTick 77 = .ok (.iconst 1, 1) := by decide +kernel
theorem dX13_rowTick_78 : decode cX13_rowTick 78 = .ok (.isub, 1) := by decide +kernel
theorem dX13_rowTick_79 : decode cX13_rowTick 79 = .ok (.istore_n 1, 1) := by decide +kernel
theorem dX13_rowTick_80 : decode cX13_rowTick 80 = .ok (.iload_n 1, 1) := by decide +kernel
theorem dX13_rowTick_81 : decode cX13_rowTick 81 = .ok (.ifCond .lt 56, 3) := by decide +kernel
theorem dX13_rowTick_84 : decode cX13_rowTick 84 = .ok (.aload_n 0, 1) := by decide +kernel
theorem dX13_rowTick_85 : decode cX13_rowTick 85 = .ok (.getfield 42, 3) := by decide +kernel
theorem dX13_rowTick_88 : decode cX13_rowTick 88 = .ok (.iload_n 1, 1) := by decide +kernel
theorem dX13_rowTick_89 : decode cX13_rowTick 89 = .ok (.iaload, 1) := by decide +kernel
theorem dX13_rowTick_90 : decode cX13_rowTick 90 = .ok (.ifCond .le 27, 3) := by decide +kernel
theorem dX13_rowTick_93 : decode cX13_rowTick 93 = .ok (.aload_n 0, 1) := by decide +kernel
theorem dX13_rowTick_94 : decode cX13_rowTick 94 = .ok (.getfield 42, 3) := by decide +kernel
theorem dX13_rowTick_97 : decode cX13_rowTick 97 = .ok (.iload_n 1, 1) := by decide +kernel
theorem dX13_rowTick_98 : decode cX13_rowTick 98 = .ok (.dup2, 1) := by decide +kernel
theorem dX13_rowTick_99 : decode cX13_rowTick 99 = .ok (.iaload, 1) := by decide +kernel
theorem dX13_rowTick_100 : decode cX13_rowTick 100 = .ok (.iconst 1, 1) := by decide +kernel
theorem dX13_rowTick_101 : decode cX13_rowTick 101 = .ok (.isub, 1) := by decide +kernel
theorem dX13_rowTick_102 : decode cX13_rowTick 102 = .ok (.iastore, 1) := by decide +kernel
theorem dX13_rowTick_103 : decode cX13_rowTick 103 = .ok (.aload_n 0, 1) := by decide +kernel
theorem dX13_rowTick_104 : decode cX13_rowTick 104 = .ok (.getfield 42, 3) := by decide +kernel
theorem dX13_rowTick_107 : decode cX13_rowTick 107 = .ok (.iload_n 1, 1) := by decide +kernel
theorem dX13_rowTick_108 : decode cX13_rowTick 108 = .ok (.iaload, 1) := by decide +kernel
theorem dX13_rowTick_109 : decode cX13_rowTick 109 = .ok (.ifCond .ne 8, 3) := by decide +kernel
theorem dX13_rowTick_112 : decode cX13_rowTick 112 = .ok (.aload_n 0, 1) := by decide +kernel
theorem dX13_rowTick_113 : decode cX13_rowTick 113 = .ok (.iload_n 1, 1) := by decide +kernel
theorem dX13_rowTick_114 : decode cX13_rowTick 114 = .ok (.invokevirtual 351, 3) := by decide +kernel
theorem dX13_rowTick_117 : decode cX13_rowTick 117 = .ok (.aload_n 0, 1) := by decide +kernel
theorem dX13_rowTick_118 : decode cX13_rowTick 118 = .ok (.getfield 42, 3) := by decide +kernel
theorem dX13_rowTick_121 : decode cX13_rowTick 121 = .ok (.iload_n 1, 1) := by decide +kernel
theorem dX13_rowTick_122 : decode cX13_rowTick 122 = .ok (.iaload, 1) := by decide +kernel
theorem dX13_rowTick_123 : decode cX13_rowTick 123 = .ok (.ifCond .ne 8, 3) := by decide +kernel
theorem dX13_rowTick_126 : decode cX13_rowTick 126 = .ok (.aload_n 0, 1) := by decide +kernel
theorem dX13_rowTick_127 : decode cX13_rowTick 127 = .ok (.iload_n 1, 1) := by decide +kernel
theorem dX13_rowTick_128 : decode cX13_rowTick 128 = .ok (.invokevirtual 354, 3) := by decide +kernel
theorem dX13_rowTick_131 : decode cX13_rowTick 131 = .ok (.iinc 1 (-1), 3) := by decide +kernel
theorem dX13_rowTick_134 : decode cX13_rowTick 134 = .ok (.goto (-54), 3) := by decide +kernel
theorem dX13_rowTick_137 : decode cX13_rowTick 137 = .ok (.iconst 1, 1) := by decide +kernel
theorem dX13_rowTick_138 : decode cX13_rowTick 138 = .ok (.istore_n 1, 1) := by decide +kernel
theorem dX13_rowTick_139 : decode cX13_rowTick 139 = .ok (.iload_n 1, 1) := by decide +kernel
theorem dX13_rowTick_140 : decode cX13_rowTick 140 = .ok (.aload_n 0, 1) := by decide +kernel
theorem dX13_rowTick_141 : decode cX13_rowTick 141 = .ok (.getfield 304, 3) := by decide +kernel
theorem dX13_rowTick_144 : decode cX13_rowTick 144 = .ok (.if_icmp .ge 36, 3) := by decide +kernel
theorem dX13_rowTick_147 : decode cX13_rowTick 147 = .ok (.aload_n 0, 1) := by decide +kernel
theorem dX13_rowTick_148 : decode cX13_rowTick 148 = .ok (.getfield 54, 3) := by decide +kernel
theorem dX13_rowTick_151 : decode cX13_rowTick 151 = .ok (.iload_n 1, 1) := by decide +kernel
theorem dX13_rowTick_152 : decode cX13_rowTick 152 = .ok (.iaload, 1) := by decide +kernel
theorem dX13_rowTick_153 : decode cX13_rowTick 153 = .ok (.aload_n 0, 1) := by decide +kernel
theorem dX13_rowTick_154 : decode cX13_rowTick 154 = .ok (.getfield 57, 3) := by decide +kernel
theorem dX13_rowTick_157 : decode cX13_rowTick 157 = .ok (.iload_n 1, 1) := by decide +kernel
theorem dX13_rowTick_158 : decode cX13_rowTick 158 = .ok (.iaload, 1) := by decide +kernel
theorem dX13_rowTick_159 : decode cX13_rowTick 159 = .ok (.if_icmp .le 15, 3) := by decide +kernel
theorem dX13_rowTick_162 : decode cX13_rowTick 162 = .ok (.aload_n 0, 1) := by decide +kernel
theorem dX13_rowTick_163 : decode cX13_rowTick 163 = .ok (.getfield 57, 3) := by decide +kernel
theorem dX13_rowTick_166 : decode cX13_rowTick 166 = .ok (.iload_n 1, 1) := by decide +kernel
theorem dX13_rowTick_167 : decode cX13_rowTick 167 = .ok (.aload_n 0, 1) := by decide +kernel
theorem dX13_rowTick_168 : decode cX13_rowTick 168 = .ok (.getfield 54, 3) := by decide +kernel
theorem dX13_rowTick_171 : decode cX13_rowTick 171 = .ok (.iload_n 1, 1) := by decide +kernel
theorem dX13_rowTick_172 : decode cX13_rowTick 172 = .ok (.iaload, 1) := by decide +kernel
theorem dX13_rowTick_173 : decode cX13_rowTick 173 = .ok (.iastore, 1) := by decide +kernel
theorem dX13_rowTick_174 : decode cX13_rowTick 174 = .ok (.iinc 1 1, 3) := by decide +kernel
theorem dX13_rowTick_177 : decode cX13_rowTick 177 = .ok (.goto (-38), 3) := by decide +kernel
theorem dX13_rowTick_180 : decode cX13_rowTick 180 = .ok (.return_, 1) := by decide +kernel
set_option maxRecDepth 100000 in
theorem lp_tr2 {l : Launch} {dd : Nat} {Po : zPo} {K0 : zK} {h0 : List va_E} {Xo : zK → Prop} {Gc : zG → Prop} (mo : Nat) (e : Nat → Nat) (g : Nat → Int32) (w : Int64) (nw : Nat → Int32) (D : zYd) (M : zRs) (h38 : M.1 38 ≤ 30)
    (hk : zS (l, mX13_rowTick, dd, Po, K0, h0, Xo, Gc) 0 0 70 [(0, .ref mo)] [] [(mo, .inr (11, fMo e (mg g (un (un M.1 37 (M.1 37 + 1)) 38 (M.1 38 - 1))) w)), ((e 14), .inl (0, 800, .inl nw)), ((e 24), .inl (0, 12, .inl (nF (M.2 24)))), ((e 25), .inl (0, 12, .inl (nF (M.2 25)))), ((e 26), .inl (0, 12, .inl (nF (M.2 26)))), ((e 27), .inl (0, 12, .inl (nF (M.2 27)))), ((e 28), .inl (0, 360, .inl (nF (M.2 28)))), ((e 29), .inl (0, 12, .inl (nF (M.2 29)))), ((e 30), .inl (0, 12, .inl (nF (M.2 30)))), ((e 31), .inl (0, 30, .inl (nF (shf (M.2 31) 0 (M.1 38 - 1))))), ((e 32), .inl (0, 12, .inl (nF (M.2 32))))]) :
    ∀ (m i : Nat) , i + m = (M.1 38 - 1) → zS (l, mX13_rowTick, dd, Po, K0, h0, Xo, Gc) 0 0 42 [(0, .ref mo), (1, .int (nI i))] [] [(mo, .inr (11, fMo e (mg g (un (un M.1 37 (M.1 37 + 1)) 38 (M.1 38 - 1))) w)), ((e 14), .inl (0, 800, .inl nw)), ((e 24), .inl (0, 12, .inl (nF (M.2 24)))), ((e 25), .inl (0, 12, .inl (nF (M.2 25)))), ((e 26), .inl (0, 12, .inl (nF (M.2 26)))), ((e 27), .inl (0, 12, .inl (nF (M.2 27)))), ((e 28), .inl (0, 360, .inl (nF (M.2 28)))), ((e 29), .inl (0, 12, .inl (nF (M.2 29)))), ((e 30), .inl (0, 12, .inl (nF (M.2 30)))), ((e 31), .inl (0, 30, .inl (nF (shf (M.2 31) 0 i)))), ((e 32), .inl (0, 12, .inl (nF (M.2 32))))] := by
  intro m
  induction m with
  | zero =>
    intro i hi
    refine zs_iload_n dX13_rowTick_42 rfl ?_
    refine zs_aload_n dX13_rowTick_43 rfl rfl ?_
    refine zs_get 0 dX13_rowTick_44 zf_RX13_313 rfl (v := .int (nI (M.1 38 - 1))) rfl ?_
    refine zs_icmp_ge (tgt := 70) dX13_rowTick_47 (by decide) (fun c_1 => ?_) (fun c_1 => (c_1 (by rw [show i = (M.1 38 - 1) by omega]; exact Int32.le_refl _) : False).elim)
    rw [show i = (M.1 38 - 1) by omega]
    refine zs_lv [0] rfl ?_
    exact hk
  | succ m ih =>
    intro i hi
    refine zs_iload_n dX13_rowTick_42 rfl ?_
    refine zs_aload_n dX13_rowTick_43 rfl rfl ?_
    refine zs_get 0 dX13_rowTick_44 zf_RX13_313 rfl (v := .int (nI (M.1 38 - 1))) rfl ?_
    refine zs_icmp_ge (tgt := 70) dX13_rowTick_47 (by decide) (fun c_1 => (nI_ge (show i < (M.1 38 - 1) by omega) (by omega) c_1 : False).elim) (fun c_1 => ?_)
    refine zs_aload_n dX13_rowTick_50 rfl rfl ?_
    refine zs_get 0 dX13_rowTick_51 zf_RX13_60 rfl (v := .ref (e 31)) rfl ?_
    refine zs_iload_n dX13_rowTick_54 rfl ?_
    refine zs_aload_n dX13_rowTick_55 rfl rfl ?_
    refine zs_get 0 dX13_rowTick_56 zf_RX13_60 rfl (v := .ref (e 31)) rfl ?_
    refine zs_iload_n dX13_rowTick_59 rfl ?_
    refine zs_iconst (v := nI 1) dX13_rowTick_60 (by decide) ?_
    refine zs_iadd dX13_rowTick_61 ?_
    refine zs_as (y := nI (i + 1)) (nI_add _ _) ?_
    refine zs_iald 9 dX13_rowTick_62 rfl (vp_in_nI (by omega) (by omega)) ?_
    refine zs_as (y := nI ((shf (M.2 31) 0 i) (i + 1))) (by rw [nI_c (n := i + 1) (by omega)]; rfl) ?_
    refine zs_iast 9 dX13_rowTick_63 rfl (vp_in_nI (by omega) (by omega)) ?_
    rw [nI_c (n := i) (by omega), nF_u]
    rw [shf_u0]
    show zS _ _ _ _ _ _ [(mo, .inr (11, fMo e (mg g (un (un M.1 37 (M.1 37 + 1)) 38 (M.1 38 - 1))) w)), ((e 14), .inl (0, 800, .inl nw)), ((e 24), .inl (0, 12, .inl (nF (M.2 24)))), ((e 25), .inl (0, 12, .inl (nF (M.2 25)))), ((e 26), .inl (0, 12, .inl (nF (M.2 26)))), ((e 27), .inl (0, 12, .inl (nF (M.2 27)))), ((e 28), .inl (0, 360, .inl (nF (M.2 28)))), ((e 29), .inl (0, 12, .inl (nF (M.2 29)))), ((e 30), .inl (0, 12, .inl (nF (M.2 30)))), ((e 31), .inl (0, 30, .inl (nF (shf (M.2 31) 0 (i + 1))))), ((e 32), .inl (0, 12, .inl (nF (M.2 32))))]
    refine zs_iinc (v := (nI (i + 1))) (lv' := [(1, .int (nI (i + 1))), (0, .ref mo)]) dX13_rowTick_64 rfl (nI_add _ 1) (Nat.le_of_ble_eq_true rfl) rfl ?_
    refine zs_goto (tgt := 42) dX13_rowTick_67 (by decide) ?_
    refine zs_lv [1, 0] rfl ?_
    exact ih (i + 1) (by omega)
set_option maxRecDepth 100000 in
theorem lp_tr1 {l : Launch} {dd : Nat} {Po : zPo} {K0 : zK} {h0 : List va_E} {Xo : zK → Prop} {Gc : zG → Prop} (mo : Nat) (e : Nat → Nat) (g : Nat → Int32) (w : Int64) (nw : Nat → Int32) (D : zYd) (c : zRs) (hD : yI D) (hk : ∀ M, tR D c M → zS (l, mX13_rowTick, dd, Po, K0, h0, Xo, Gc) 0 0 73 [(0, .ref mo)] [] [(mo, .inr (11, fMo e (mg g M.1) w)), ((e 14), .inl (0, 800, .inl nw)), ((e 24), .inl (0, 12, .inl (nF (M.2 24)))), ((e 25), .inl (0, 12, .inl (nF (M.2 25)))), ((e 26), .inl (0, 12, .inl (nF (M.2 26)))), ((e 27), .inl (0, 12, .inl (nF (M.2 27)))), ((e 28), .inl (0, 360, .inl (nF (M.2 28)))), ((e 29), .inl (0, 12, .inl (nF (M.2 29)))), ((e 30), .inl (0, 12, .inl (nF (M.2 30)))), ((e 31), .inl (0, 30, .inl (nF (M.2 31)))), ((e 32), .inl (0, 12, .inl (nF (M.2 32))))]) : ∀ (a : Nat) (M : zRs), M.1 38 = a → M.1 36 ≤ 1000000 → tR0 D c M → zS (l, mX13_rowTick, dd, Po, K0, h0, Xo, Gc) 0 0 0 [(0, .ref mo)] [] [(mo, .inr (11, fMo e (mg g M.1) w)), ((e 14), .inl (0, 800, .inl nw)), ((e 24), .inl (0, 12, .inl (nF (M.2 24)))), ((e 25), .inl (0, 12, .inl (nF (M.2 25)))), ((e 26), .inl (0, 12, .inl (nF (M.2 26)))), ((e 27), .inl (0, 12, .inl (nF (M.2 27)))), ((e 28), .inl (0, 360, .inl (nF (M.2 28)))), ((e 29), .inl (0, 12, .inl (nF (M.2 29)))), ((e 30), .inl (0, 12, .inl (nF (M.2 30)))), ((e 31), .inl (0, 30, .inl (nF (M.2 31)))), ((e 32), .inl (0, 12, .inl (nF (M.2 32))))] := by
  intro a
  induction a with
  | zero =>
    intro M ha0 ht h
    refine zs_aload_n dX13_rowTick_0 rfl rfl ?_
    refine zs_get 0 dX13_rowTick_1 zf_RX13_313 rfl (v := .int (nI (M.1 38))) rfl ?_
    refine zs_if_le (tgt := 73) dX13_rowTick_4 (by decide) (fun c_1 => ?_) (fun c_1 => (c_1 (by rw [ha0]; exact Int32.le_refl _) : False).elim)
    refine zs_lv [0] rfl ?_
    exact hk M (tR_be hD h (fun q => absurd q (by omega)))
  | succ a ih =>
    intro M ha0 ht h
    have h30 := h.2.2.1.2.2.2.2.2
    refine zs_aload_n dX13_rowTick_0 rfl rfl ?_
    refine zs_get 0 dX13_rowTick_1 zf_RX13_313 rfl (v := .int (nI (M.1 38))) rfl ?_
    refine zs_if_le (tgt := 73) dX13_rowTick_4 (by decide) (fun c_1 => ?_) (fun c_1 => ?_)
    · have c_1 : (M.1 38) ≤ 0 := by have hc := c_1; rw [show (0 : Int32) = nI 0 from rfl] at hc; rw [nI_le' (by omega) (by omega)] at hc; exact hc
      refine zs_lv [0] rfl ?_
      exact hk M (tR_be hD h (fun q => absurd q (by omega)))
    · have c_1 : ¬ ((M.1 38) ≤ 0) := by have hc := c_1; rw [show (0 : Int32) = nI 0 from rfl] at hc; rw [nI_le' (by omega) (by omega)] at hc; exact hc
      refine zs_aload_n dX13_rowTick_7 rfl rfl ?_
      refine zs_get 0 dX13_rowTick_8 zf_RX13_60 rfl (v := .ref (e 31)) rfl ?_
      refine zs_iconst (v := nI 0) dX13_rowTick_11 (by decide) ?_
      refine zs_iald 9 dX13_rowTick_12 rfl (vp_in_nI (by omega) (by omega)) ?_
      refine zs_as (y := nI ((M.2 31) 0)) (by rw [nI_c (n := 0) (by omega)]; rfl) ?_
      refine zs_aload_n dX13_rowTick_13 rfl rfl ?_
      refine zs_get 0 dX13_rowTick_14 zf_RX13_307 rfl (v := .int (nI (M.1 36))) rfl ?_
      have hle := (h.2.2.1.2.1 0 (by omega)).2
      have h11 := hD.2.2.2.2.2.2.2.2.2.2.2.2.2.2.2.1
      refine zs_icmp_gt (tgt := 73) dX13_rowTick_17 (by decide) (fun c_2 => ?_) (fun c_2 => ?_)
      · have c_2 : (M.1 36) < ((M.2 31) 0) := by have hc := c_2; rw [nI_lt' (by omega) (by omega)] at hc; exact hc
        refine zs_lv [0] rfl ?_
        exact hk M (tR_be hD h (fun _ => c_2))
      · have c_2 : ¬ ((M.1 36) < ((M.2 31) 0)) := by have hc := c_2; rw [nI_lt' (by omega) (by omega)] at hc; exact hc
        refine zs_aload_n dX13_rowTick_20 rfl rfl ?_
        refine zs_dup dX13_rowTick_21 rfl ?_
        refine zs_get 0 dX13_rowTick_22 zf_RX13_310 rfl (v := .int (nI (M.1 37))) rfl ?_
        refine zs_iconst (v := nI 1) dX13_rowTick_25 (by decide) ?_
        refine zs_iadd dX13_rowTick_26 ?_
        refine zs_as (y := nI ((M.1 37) + 1)) (nI_add _ _) ?_
        refine zs_put 0 dX13_rowTick_27 zf_RX13_310 rfl (Nat.le_of_ble_eq_true rfl) (zPv_i _) ?_
        show zS _ _ _ _ _ _ [(mo, .inr (11, fMo e (mg g (un M.1 37 ((M.1 37) + 1))) w)), ((e 14), .inl (0, 800, .inl nw)), ((e 24), .inl (0, 12, .inl (nF (M.2 24)))), ((e 25), .inl (0, 12, .inl (nF (M.2 25)))), ((e 26), .inl (0, 12, .inl (nF (M.2 26)))), ((e 27), .inl (0, 12, .inl (nF (M.2 27)))), ((e 28), .inl (0, 360, .inl (nF (M.2 28)))), ((e 29), .inl (0, 12, .inl (nF (M.2 29)))), ((e 30), .inl (0, 12, .inl (nF (M.2 30)))), ((e 31), .inl (0, 30, .inl (nF (M.2 31)))), ((e 32), .inl (0, 12, .inl (nF (M.2 32))))]
        refine zs_aload_n dX13_rowTick_30 rfl rfl ?_
        refine zs_dup dX13_rowTick_31 rfl ?_
        refine zs_get 0 dX13_rowTick_32 zf_RX13_313 rfl (v := .int (nI (M.1 38))) rfl ?_
        refine zs_iconst (v := nI 1) dX13_rowTick_35 (by decide) ?_
        refine zs_isub dX13_rowTick_36 ?_
        refine zs_as (y := nI ((M.1 38) - 1)) (nI_sub (by omega)) ?_
        refine zs_put 0 dX13_rowTick_37 zf_RX13_313 rfl (Nat.le_of_ble_eq_true rfl) (zPv_i _) ?_
        show zS _ _ _ _ _ _ [(mo, .inr (11, fMo e (mg g (un (un M.1 37 ((M.1 37) + 1)) 38 ((M.1 38) - 1))) w)), ((e 14), .inl (0, 800, .inl nw)), ((e 24), .inl (0, 12, .inl (nF (M.2 24)))), ((e 25), .inl (0, 12, .inl (nF (M.2 25)))), ((e 26), .inl (0, 12, .inl (nF (M.2 26)))), ((e 27), .inl (0, 12, .inl (nF (M.2 27)))), ((e 28), .inl (0, 360, .inl (nF (M.2 28)))), ((e 29), .inl (0, 12, .inl (nF (M.2 29)))), ((e 30), .inl (0, 12, .inl (nF (M.2 30)))), ((e 31), .inl (0, 30, .inl (nF (M.2 31)))), ((e 32), .inl (0, 12, .inl (nF (M.2 32))))]
        refine zs_iconst (v := nI 0) dX13_rowTick_40 (by decide) ?_
        refine zs_istore_n (lv' := [(1, .int (nI 0)), (0, .ref mo)]) dX13_rowTick_41 (Nat.le_of_ble_eq_true rfl) rfl ?_
        refine zs_lv [1, 0] rfl ?_
        refine zs_eq (K' := [(mo, .inr (11, fMo e (mg g (un (un M.1 37 (M.1 37 + 1)) 38 (M.1 38 - 1))) w)), ((e 14), .inl (0, 800, .inl nw)), ((e 24), .inl (0, 12, .inl (nF (M.2 24)))), ((e 25), .inl (0, 12, .inl (nF (M.2 25)))), ((e 26), .inl (0, 12, .inl (nF (M.2 26)))), ((e 27), .inl (0, 12, .inl (nF (M.2 27)))), ((e 28), .inl (0, 360, .inl (nF (M.2 28)))), ((e 29), .inl (0, 12, .inl (nF (M.2 29)))), ((e 30), .inl (0, 12, .inl (nF (M.2 30)))), ((e 31), .inl (0, 30, .inl (nF (shf (M.2 31) 0 0)))), ((e 32), .inl (0, 12, .inl (nF (M.2 32))))]) (by rw [shf_0]) ?_
        refine lp_tr2 mo e g w nw D M h.2.2.1.2.2.2.2.2 ?_ (M.1 38 - 1) 0 (by omega)
        refine zs_goto (tgt := 0) dX13_rowTick_70 (by decide) ?_
        exact ih (tmRm M) (by show M.1 38 - 1 = a; omega) ht (tR_rm h (by omega) (by omega))
set_option maxRecDepth 100000 in
theorem tr_117 {l : Launch} {dd : Nat} {Po : zPo} {K0 : zK} {h0 : List va_E} {Xo : zK → Prop} {Gc : zG → Prop} (mo : Nat) (e : Nat → Nat) (g : Nat → Int32) (w : Int64) (nw : Nat → Int32) (D : zYd) (c1 M : zRs) (P t k : Nat) (hd : 4 ≤ dd) (hR : yR D nw) (hD : yI D) (h : tR D c1 M) (hI : cIn P t k c1) (hP : P ≤ 30) (ht : t ≤ 3600) (hk1 : k < c1.1 1) (hk : ∀ M2, tR D (if c1.2 3 k = 0 then cSta (D.1 7) D.2.2.2.2.2.1 c1 k else c1) M2 → zS (l, mX13_rowTick, dd, Po, K0, h0, Xo, Gc) 0 0 80 [(0, .ref mo), (1, .int (dI k))] [] [(mo, .inr (11, fMo e (mg g M2.1) w)), ((e 14), .inl (0, 800, .inl nw)), ((e 24), .inl (0, 12, .inl (nF (M2.2 24)))), ((e 25), .inl (0, 12, .inl (nF (M2.2 25)))), ((e 26), .inl (0, 12, .inl (nF (M2.2 26)))), ((e 27), .inl (0, 12, .inl (nF (M2.2 27)))), ((e 28), .inl (0, 360, .inl (nF (M2.2 28)))), ((e 29), .inl (0, 12, .inl (nF (M2.2 29)))), ((e 30), .inl (0, 12, .inl (nF (M2.2 30)))), ((e 31), .inl (0, 30, .inl (nF (M2.2 31)))), ((e 32), .inl (0, 12, .inl (nF (M2.2 32))))]) : zS (l, mX13_rowTick, dd, Po, K0, h0, Xo, Gc) 0 0 117 [(0, .ref mo), (1, .int (nI k))] [] [(mo, .inr (11, fMo e (mg g M.1) w)), ((e 14), .inl (0, 800, .inl nw)), ((e 24), .inl (0, 12, .inl (nF (M.2 24)))), ((e 25), .inl (0, 12, .inl (nF (M.2 25)))), ((e 26), .inl (0, 12, .inl (nF (M.2 26)))), ((e 27), .inl (0, 12, .inl (nF (M.2 27)))), ((e 28), .inl (0, 360, .inl (nF (M.2 28)))), ((e 29), .inl (0, 12, .inl (nF (M.2 29)))), ((e 30), .inl (0, 12, .inl (nF (M.2 30)))), ((e 31), .inl (0, 30, .inl (nF (M.2 31)))), ((e 32), .inl (0, 12, .inl (nF (M.2 32))))] := by
  obtain ⟨⟨b33, b33a, b33b⟩, b26, b27, b29, b24, b35, b37, bbusy, b25, b25b, b38, b30⟩ := tR_b h hI hP ht hk1
  refine zs_aload_n dX13_rowTick_117 rfl rfl ?_
  refine zs_get 0 dX13_rowTick_118 zf_RX13_42 rfl (v := .ref (e 25)) rfl ?_
  refine zs_iload_n dX13_rowTick_121 rfl ?_
  refine zs_iald 3 dX13_rowTick_122 rfl (vp_in_nI (by omega) (by omega)) ?_
  refine zs_as (y := nI ((M.2 25) k)) (by rw [nI_c (n := k) (by omega)]; rfl) ?_
  refine zs_if_ne (tgt := 131) dX13_rowTick_123 (by decide) (fun c_1 => ?_) (fun c_1 => ?_)
  · have c_1 : ¬ (((M.2 25) k) = 0) := by have hc := c_1; rw [show (0 : Int32) = nI 0 from rfl] at hc; rw [nI_eq' (by omega) (by omega)] at hc; exact hc
    refine zs_iinc (v := (dI k)) (lv' := [(1, .int (dI k)), (0, .ref mo)]) dX13_rowTick_131 rfl (dI_s k) (Nat.le_of_ble_eq_true rfl) rfl ?_
    refine zs_goto (tgt := 80) dX13_rowTick_134 (by decide) ?_
    refine zs_lv [1, 0] rfl ?_
    exact hk M (by rw [if_neg (show ¬ c1.2 3 k = 0 by omega)]; exact h)
  · have c_1 : ((M.2 25) k) = 0 := by have hc := c_1; rw [show (0 : Int32) = nI 0 from rfl] at hc; rw [nI_eq' (by omega) (by omega)] at hc; exact hc
    refine zs_aload_n dX13_rowTick_126 rfl rfl ?_
    refine zs_iload_n dX13_rowTick_127 rfl ?_
    refine zs_callV (M := mX13_takesUp) (As := [.int (nI k)]) (st := []) (Kc := [(mo, .inr (11, fMo e (mg g M.1) w)), ((e 14), .inl (0, 800, .inl nw)), ((e 24), .inl (0, 12, .inl (nF (M.2 24)))), ((e 25), .inl (0, 12, .inl (nF (M.2 25)))), ((e 26), .inl (0, 12, .inl (nF (M.2 26)))), ((e 27), .inl (0, 12, .inl (nF (M.2 27)))), ((e 28), .inl (0, 360, .inl (nF (M.2 28)))), ((e 29), .inl (0, 12, .inl (nF (M.2 29)))), ((e 30), .inl (0, 12, .inl (nF (M.2 30)))), ((e 31), .inl (0, 30, .inl (nF (M.2 31)))), ((e 32), .inl (0, 12, .inl (nF (M.2 32))))]) (Kr := []) [0, 1, 2, 3, 4, 5, 6, 7, 8, 9, 10] [] 0 dX13_rowTick_128 zl_RX13_354 kX13_takesUp rfl rfl rfl rfl rfl (by decide) rfl rfl (show dd - 1 + 1 ≤ dd by omega) (Nat.zero_le _) (Nat.zero_le _) (Nat.le_of_ble_eq_true rfl) (s_tTake l (dd - 1) mo e g w nw D M k hR hD (by omega) (by omega) (by omega) b35 b37 b29 (by omega) b24) (fun r K1 hr => ?_)
    obtain ⟨rfl, rfl⟩ := hr
    refine zs_K (K' := [(mo, .inr (11, fMo e (mg g ((tmTa D M k).1)) w)), ((e 14), .inl (0, 800, .inl nw)), ((e 24), .inl (0, 12, .inl (nF ((tmTa D M k).2 24)))), ((e 25), .inl (0, 12, .inl (nF ((tmTa D M k).2 25)))), ((e 26), .inl (0, 12, .inl (nF ((tmTa D M k).2 26)))), ((e 27), .inl (0, 12, .inl (nF ((tmTa D M k).2 27)))), ((e 28), .inl (0, 360, .inl (nF ((tmTa D M k).2 28)))), ((e 29), .inl (0, 12, .inl (nF ((tmTa D M k).2 29)))), ((e 30), .inl (0, 12, .inl (nF ((tmTa D M k).2 30)))), ((e 31), .inl (0, 30, .inl (nF ((tmTa D M k).2 31)))), ((e 32), .inl (0, 12, .inl (nF ((tmTa D M k).2 32))))]) [0, 1, 2, 3, 4, 5, 6, 7, 8, 9, 10] rfl (by decide) ?_
    refine zs_iinc (v := (dI k)) (lv' := [(1, .int (dI k)), (0, .ref mo)]) dX13_rowTick_131 rfl (dI_s k) (Nat.le_of_ble_eq_true rfl) rfl ?_
    refine zs_goto (tgt := 80) dX13_rowTick_134 (by decide) ?_
    refine zs_lv [1, 0] rfl ?_
    exact hk (tmTa D M k) (by rw [if_pos (show c1.2 3 k = 0 by omega)]; exact tR_ta hD h hI hk1 (by omega))
set_option maxRecDepth 100000 in
theorem lp_tr3 {l : Launch} {dd : Nat} {Po : zPo} {K0 : zK} {h0 : List va_E} {Xo : zK → Prop} {Gc : zG → Prop} (mo : Nat) (e : Nat → Nat) (g : Nat → Int32) (w : Int64) (nw : Nat → Int32) (D : zYd) (P t : Nat) (F : zRs) (hd : 4 ≤ dd) (hR : yR D nw) (hD : yI D) (hP : P ≤ 30) (ht1 : 1 ≤ t) (ht : t ≤ 3600) (hk : ∀ M, tR D F M → cIn P t 0 F → zS (l, mX13_rowTick, dd, Po, K0, h0, Xo, Gc) 0 0 137 [(0, .ref mo)] [] [(mo, .inr (11, fMo e (mg g M.1) w)), ((e 14), .inl (0, 800, .inl nw)), ((e 24), .inl (0, 12, .inl (nF (M.2 24)))), ((e 25), .inl (0, 12, .inl (nF (M.2 25)))), ((e 26), .inl (0, 12, .inl (nF (M.2 26)))), ((e 27), .inl (0, 12, .inl (nF (M.2 27)))), ((e 28), .inl (0, 360, .inl (nF (M.2 28)))), ((e 29), .inl (0, 12, .inl (nF (M.2 29)))), ((e 30), .inl (0, 12, .inl (nF (M.2 30)))), ((e 31), .inl (0, 30, .inl (nF (M.2 31)))), ((e 32), .inl (0, 12, .inl (nF (M.2 32))))]) : ∀ (k : Nat) (c M : zRs), k ≤ c.1 1 → tR D c M → cIn P t k c → cDn (D.1 11) (D.1 10) (D.1 7) D.2.2.2.2.2.1 k c = F → zS (l, mX13_rowTick, dd, Po, K0, h0, Xo, Gc) 0 0 80 [(0, .ref mo), (1, .int (dI k))] [] [(mo, .inr (11, fMo e (mg g M.1) w)), ((e 14), .inl (0, 800, .inl nw)), ((e 24), .inl (0, 12, .inl (nF (M.2 24)))), ((e 25), .inl (0, 12, .inl (nF (M.2 25)))), ((e 26), .inl (0, 12, .inl (nF (M.2 26)))), ((e 27), .inl (0, 12, .inl (nF (M.2 27)))), ((e 28), .inl (0, 360, .inl (nF (M.2 28)))), ((e 29), .inl (0, 12, .inl (nF (M.2 29)))), ((e 30), .inl (0, 12, .inl (nF (M.2 30)))), ((e 31), .inl (0, 30, .inl (nF (M.2 31)))), ((e 32), .inl (0, 12, .inl (nF (M.2 32))))] := by
  intro k
  induction k with
  | zero =>
    intro c M hkc h hI hF
    show zS (l, mX13_rowTick, dd, Po, K0, h0, Xo, Gc) 0 0 80 [(0, .ref mo), (1, .int (-1))] [] [(mo, .inr (11, fMo e (mg g M.1) w)), ((e 14), .inl (0, 800, .inl nw)), ((e 24), .inl (0, 12, .inl (nF (M.2 24)))), ((e 25), .inl (0, 12, .inl (nF (M.2 25)))), ((e 26), .inl (0, 12, .inl (nF (M.2 26)))), ((e 27), .inl (0, 12, .inl (nF (M.2 27)))), ((e 28), .inl (0, 360, .inl (nF (M.2 28)))), ((e 29), .inl (0, 12, .inl (nF (M.2 29)))), ((e 30), .inl (0, 12, .inl (nF (M.2 30)))), ((e 31), .inl (0, 30, .inl (nF (M.2 31)))), ((e 32), .inl (0, 12, .inl (nF (M.2 32))))]
    refine zs_iload_n dX13_rowTick_80 rfl ?_
    refine zs_if_lt (tgt := 137) dX13_rowTick_81 (by decide) (fun c_1 => ?_) (fun c_1 => (by first | exact absurd c_1 (by decide) | exact absurd (by decide) c_1 : False).elim)
    refine zs_lv [0] rfl ?_
    have hF : c = F := hF
    subst hF
    exact hk M h hI
  | succ k ih =>
    intro c M hkc h hI hF
    show zS (l, mX13_rowTick, dd, Po, K0, h0, Xo, Gc) 0 0 80 [(0, .ref mo), (1, .int (nI k))] [] [(mo, .inr (11, fMo e (mg g M.1) w)), ((e 14), .inl (0, 800, .inl nw)), ((e 24), .inl (0, 12, .inl (nF (M.2 24)))), ((e 25), .inl (0, 12, .inl (nF (M.2 25)))), ((e 26), .inl (0, 12, .inl (nF (M.2 26)))), ((e 27), .inl (0, 12, .inl (nF (M.2 27)))), ((e 28), .inl (0, 360, .inl (nF (M.2 28)))), ((e 29), .inl (0, 12, .inl (nF (M.2 29)))), ((e 30), .inl (0, 12, .inl (nF (M.2 30)))), ((e 31), .inl (0, 30, .inl (nF (M.2 31)))), ((e 32), .inl (0, 12, .inl (nF (M.2 32))))]
    have hk1 : k < c.1 1 := by omega
    obtain ⟨⟨b33, b33a, b33b⟩, b26, b27, b29, b24, b35, b37, bbusy, b25, b25b, b38, b30⟩ := tR_b h hI hP ht hk1
    refine zs_iload_n dX13_rowTick_80 rfl ?_
    refine zs_if_lt (tgt := 137) dX13_rowTick_81 (by decide) (fun c_1 => (by rw [show (0 : Int32) = nI 0 from rfl, nI_lt' (by omega) (by omega)] at c_1; omega : False).elim) (fun c_1 => ?_)
    refine zs_aload_n dX13_rowTick_84 rfl rfl ?_
    refine zs_get 0 dX13_rowTick_85 zf_RX13_42 rfl (v := .ref (e 25)) rfl ?_
    refine zs_iload_n dX13_rowTick_88 rfl ?_
    refine zs_iald 3 dX13_rowTick_89 rfl (vp_in_nI (by omega) (by omega)) ?_
    refine zs_as (y := nI ((M.2 25) k)) (by rw [nI_c (n := k) (by omega)]; rfl) ?_
    refine zs_if_le (tgt := 117) dX13_rowTick_90 (by decide) (fun c_2 => ?_) (fun c_2 => ?_)
    · have c_2 : ((M.2 25) k) ≤ 0 := by have hc := c_2; rw [show (0 : Int32) = nI 0 from rfl] at hc; rw [nI_le' (by omega) (by omega)] at hc; exact hc
      refine zs_lv [0, 1] rfl ?_
      exact tr_117 mo e g w nw D (cPa (D.1 11) (D.1 10) c k) M P t k hd hR hD (by rw [cPa, if_pos (show c.2 3 k = 0 by omega)]; exact h) (cPa_pails hI hP ⟨ht1, ht⟩ hk1) hP ht (by rw [cPa_m]; exact hk1) (fun M2 h2 => ih (cPl (D.1 11) (D.1 10) (D.1 7) D.2.2.2.2.2.1 c k) M2 (by rw [cPl_m]; omega) h2 (cPl_pails hI hP ⟨ht1, ht⟩ hD.2.2.2.2.2.2.2.2.2.2.2.1.2 hk1) hF)
    · have c_2 : ¬ (((M.2 25) k) ≤ 0) := by have hc := c_2; rw [show (0 : Int32) = nI 0 from rfl] at hc; rw [nI_le' (by omega) (by omega)] at hc; exact hc
      refine zs_aload_n dX13_rowTick_93 rfl rfl ?_
      refine zs_get 0 dX13_rowTick_94 zf_RX13_42 rfl (v := .ref (e 25)) rfl ?_
      refine zs_iload_n dX13_rowTick_97 rfl ?_
      refine zs_dup2 dX13_rowTick_98 rfl rfl ?_
      refine zs_iald 3 dX13_rowTick_99 rfl (vp_in_nI (by omega) (by omega)) ?_
      refine zs_as (y := nI ((M.2 25) k)) (by rw [nI_c (n := k) (by omega)]; rfl) ?_
      refine zs_iconst (v := nI 1) dX13_rowTick_100 (by decide) ?_
      refine zs_isub dX13_rowTick_101 ?_
      refine zs_as (y := nI (((M.2 25) k) - 1)) (nI_sub (by omega)) ?_
      refine zs_iast 3 dX13_rowTick_102 rfl (vp_in_nI (by omega) (by omega)) ?_
      rw [nI_c (n := k) (by omega), nF_u]
      show zS _ _ _ _ _ _ [(mo, .inr (11, fMo e (mg g M.1) w)), ((e 14), .inl (0, 800, .inl nw)), ((e 24), .inl (0, 12, .inl (nF (M.2 24)))), ((e 25), .inl (0, 12, .inl (nF (un (M.2 25) k (((M.2 25) k) - 1))))), ((e 26), .inl (0, 12, .inl (nF (M.2 26)))), ((e 27), .inl (0, 12, .inl (nF (M.2 27)))), ((e 28), .inl (0, 360, .inl (nF (M.2 28)))), ((e 29), .inl (0, 12, .inl (nF (M.2 29)))), ((e 30), .inl (0, 12, .inl (nF (M.2 30)))), ((e 31), .inl (0, 30, .inl (nF (M.2 31)))), ((e 32), .inl (0, 12, .inl (nF (M.2 32))))]
      refine zs_aload_n dX13_rowTick_103 rfl rfl ?_
      refine zs_get 0 dX13_rowTick_104 zf_RX13_42 rfl (v := .ref (e 25)) rfl ?_
      refine zs_iload_n dX13_rowTick_107 rfl ?_
      refine zs_iald 3 dX13_rowTick_108 rfl (vp_in_nI (by omega) (by omega)) ?_
      refine zs_as (y := nI (((M.2 25) k) - 1)) (by rw [nI_c (n := k) (by omega)]; exact congrArg nI (if_pos rfl)) ?_
      refine zs_if_ne (tgt := 117) dX13_rowTick_109 (by decide) (fun c_3 => ?_) (fun c_3 => ?_)
      · have c_3 : ¬ ((((M.2 25) k) - 1) = 0) := by have hc := c_3; rw [show (0 : Int32) = nI 0 from rfl] at hc; rw [nI_eq' (by omega) (by omega)] at hc; exact hc
        refine zs_lv [0, 1] rfl ?_
        exact tr_117 mo e g w nw D (cPa (D.1 11) (D.1 10) c k) (tmDe M k) P t k hd hR hD (by rw [cPa, if_neg (show ¬ c.2 3 k = 0 by omega), if_neg (show ¬ c.2 3 k - 1 = 0 by omega)]; exact tR_de h hk1 (by omega)) (cPa_pails hI hP ⟨ht1, ht⟩ hk1) hP ht (by rw [cPa_m]; exact hk1) (fun M2 h2 => ih (cPl (D.1 11) (D.1 10) (D.1 7) D.2.2.2.2.2.1 c k) M2 (by rw [cPl_m]; omega) h2 (cPl_pails hI hP ⟨ht1, ht⟩ hD.2.2.2.2.2.2.2.2.2.2.2.1.2 hk1) hF)
      · have c_3 : (((M.2 25) k) - 1) = 0 := by have hc := c_3; rw [show (0 : Int32) = nI 0 from rfl] at hc; rw [nI_eq' (by omega) (by omega)] at hc; exact hc
        refine zs_aload_n dX13_rowTick_112 rfl rfl ?_
        refine zs_iload_n dX13_rowTick_113 rfl ?_
        refine zs_callV (M := mX13_finishes) (As := [.int (nI k)]) (st := []) (Kc := [(mo, .inr (11, fMo e (mg g M.1) w)), ((e 14), .inl (0, 800, .inl nw)), ((e 24), .inl (0, 12, .inl (nF (M.2 24)))), ((e 25), .inl (0, 12, .inl (nF (un (M.2 25) k (((M.2 25) k) - 1))))), ((e 26), .inl (0, 12, .inl (nF (M.2 26)))), ((e 27), .inl (0, 12, .inl (nF (M.2 27)))), ((e 28), .inl (0, 360, .inl (nF (M.2 28)))), ((e 29), .inl (0, 12, .inl (nF (M.2 29)))), ((e 30), .inl (0, 12, .inl (nF (M.2 30)))), ((e 31), .inl (0, 30, .inl (nF (M.2 31)))), ((e 32), .inl (0, 12, .inl (nF (M.2 32))))]) (Kr := []) [0, 1, 2, 3, 4, 5, 6, 7, 8, 9, 10] [] 0 dX13_rowTick_114 zl_RX13_351 kX13_finishes rfl rfl rfl rfl rfl (by decide) rfl rfl (show dd - 1 + 1 ≤ dd by omega) (Nat.zero_le _) (Nat.zero_le _) (Nat.le_of_ble_eq_true rfl) (s_tFin l (dd - 1) mo e g w nw D (tmDe M k) k hR hD (by omega) (show k < M.1 33 by omega) (show M.1 33 ≤ 12 by omega) (show M.1 38 < 30 from (bbusy (by omega)).1) (show M.2 26 k ≤ 20 from b26) (bbusy (by omega)).2 (show M.2 27 k ≤ 1000000 by omega)) (fun r K1 hr => ?_)
        obtain ⟨rfl, rfl⟩ := hr
        refine zs_K (K' := [(mo, .inr (11, fMo e (mg g ((tmFi (D.1 11) (D.1 10) (tmDe M k) k).1)) w)), ((e 14), .inl (0, 800, .inl nw)), ((e 24), .inl (0, 12, .inl (nF ((tmFi (D.1 11) (D.1 10) (tmDe M k) k).2 24)))), ((e 25), .inl (0, 12, .inl (nF ((tmFi (D.1 11) (D.1 10) (tmDe M k) k).2 25)))), ((e 26), .inl (0, 12, .inl (nF ((tmFi (D.1 11) (D.1 10) (tmDe M k) k).2 26)))), ((e 27), .inl (0, 12, .inl (nF ((tmFi (D.1 11) (D.1 10) (tmDe M k) k).2 27)))), ((e 28), .inl (0, 360, .inl (nF ((tmFi (D.1 11) (D.1 10) (tmDe M k) k).2 28)))), ((e 29), .inl (0, 12, .inl (nF ((tmFi (D.1 11) (D.1 10) (tmDe M k) k).2 29)))), ((e 30), .inl (0, 12, .inl (nF ((tmFi (D.1 11) (D.1 10) (tmDe M k) k).2 30)))), ((e 31), .inl (0, 30, .inl (nF ((tmFi (D.1 11) (D.1 10) (tmDe M k) k).2 31)))), ((e 32), .inl (0, 12, .inl (nF ((tmFi (D.1 11) (D.1 10) (tmDe M k) k).2 32))))]) [0, 1, 2, 3, 4, 5, 6, 7, 8, 9, 10] rfl (by decide) ?_
        refine zs_lv [0, 1] rfl ?_
        exact tr_117 mo e g w nw D (cPa (D.1 11) (D.1 10) c k) (tmFi (D.1 11) (D.1 10) (tmDe M k) k) P t k hd hR hD (by rw [cPa, if_neg (show ¬ c.2 3 k = 0 by omega), if_pos (show c.2 3 k - 1 = 0 by omega)]; exact tR_fi hD h hI hP hk1 (by omega)) (cPa_pails hI hP ⟨ht1, ht⟩ hk1) hP ht (by rw [cPa_m]; exact hk1) (fun M2 h2 => ih (cPl (D.1 11) (D.1 10) (D.1 7) D.2.2.2.2.2.1 c k) M2 (by rw [cPl_m]; omega) h2 (cPl_pails hI hP ⟨ht1, ht⟩ hD.2.2.2.2.2.2.2.2.2.2.2.1.2 hk1) hF)
set_option maxRecDepth 100000 in
theorem lp_tr4 {l : Launch} {dd : Nat} {Po : zPo} {K0 : zK} {h0 : List va_E} {Xo : zK → Prop} {Gc : zG → Prop} (mo : Nat) (e : Nat → Nat) (g : Nat → Int32) (w : Int64) (nw : Nat → Int32) (D : zYd) (d : zRs) (hn : 2 ≤ d.1 1 ∧ d.1 1 ≤ 12) (hb8 : ∀ p, p < 12 → d.2 8 p ≤ 30) (hb9 : ∀ p, p < 12 → d.2 9 p ≤ 30) (hPo : ∀ M, tR D (d.1, uu d.2 9 (cMo d (d.1 1))) M → Po none (kTm mo e g w nw M)) : ∀ (m k : Nat) (M : zRs), k + m = d.1 1 → 1 ≤ k → tR D (d.1, uu d.2 9 (cMo d k)) M → zS (l, mX13_rowTick, dd, Po, K0, h0, Xo, Gc) 0 0 139 [(0, .ref mo), (1, .int (nI k))] [] [(mo, .inr (11, fMo e (mg g M.1) w)), ((e 14), .inl (0, 800, .inl nw)), ((e 24), .inl (0, 12, .inl (nF (M.2 24)))), ((e 25), .inl (0, 12, .inl (nF (M.2 25)))), ((e 26), .inl (0, 12, .inl (nF (M.2 26)))), ((e 27), .inl (0, 12, .inl (nF (M.2 27)))), ((e 28), .inl (0, 360, .inl (nF (M.2 28)))), ((e 29), .inl (0, 12, .inl (nF (M.2 29)))), ((e 30), .inl (0, 12, .inl (nF (M.2 30)))), ((e 31), .inl (0, 30, .inl (nF (M.2 31)))), ((e 32), .inl (0, 12, .inl (nF (M.2 32))))] := by
  intro m
  induction m with
  | zero =>
    intro k M hkm hk1 h
    have n33 : M.1 33 = d.1 1 := h.1.1
    refine zs_iload_n dX13_rowTick_139 rfl ?_
    refine zs_aload_n dX13_rowTick_140 rfl rfl ?_
    refine zs_get 0 dX13_rowTick_141 zf_RX13_304 rfl (v := .int (nI (M.1 33))) rfl ?_
    refine zs_icmp_ge (tgt := 180) dX13_rowTick_144 (by decide) (fun c_1 => ?_) (fun c_1 => (c_1 (by rw [show k = M.1 33 by omega]; exact Int32.le_refl _) : False).elim)
    exact zs_vret dX13_rowTick_180 rfl (hPo _ (by rw [show k = d.1 1 by omega] at h; exact h))
  | succ m ih =>
    intro k M hkm hk1 h
    have n33 : M.1 33 = d.1 1 := h.1.1
    refine zs_iload_n dX13_rowTick_139 rfl ?_
    refine zs_aload_n dX13_rowTick_140 rfl rfl ?_
    refine zs_get 0 dX13_rowTick_141 zf_RX13_304 rfl (v := .int (nI (M.1 33))) rfl ?_
    refine zs_icmp_ge (tgt := 180) dX13_rowTick_144 (by decide) (fun c_1 => (nI_ge (show k < M.1 33 by omega) (by omega) c_1 : False).elim) (fun c_1 => ?_)
    have b29 : M.2 29 k ≤ 30 := by rw [(h.2.1 k (show k < d.1 1 by omega)).2.2.2.2.2.2.1]; exact hb8 k (by omega)
    have b30 : M.2 30 k ≤ 30 := by
      rw [(h.2.1 k (show k < d.1 1 by omega)).2.2.2.2.2.2.2.1]
      show cMo d k k ≤ 30
      rw [cMo_ge d k k (Nat.le_refl _)]; exact hb9 k (by omega)
    refine zs_aload_n dX13_rowTick_147 rfl rfl ?_
    refine zs_get 0 dX13_rowTick_148 zf_RX13_54 rfl (v := .ref (e 29)) rfl ?_
    refine zs_iload_n dX13_rowTick_151 rfl ?_
    refine zs_iald 7 dX13_rowTick_152 rfl (vp_in_nI (by omega) (by omega)) ?_
    refine zs_as (y := nI ((M.2 29) k)) (by rw [nI_c (n := k) (by omega)]; rfl) ?_
    refine zs_aload_n dX13_rowTick_153 rfl rfl ?_
    refine zs_get 0 dX13_rowTick_154 zf_RX13_57 rfl (v := .ref (e 30)) rfl ?_
    refine zs_iload_n dX13_rowTick_157 rfl ?_
    refine zs_iald 8 dX13_rowTick_158 rfl (vp_in_nI (by omega) (by omega)) ?_
    refine zs_as (y := nI ((M.2 30) k)) (by rw [nI_c (n := k) (by omega)]; rfl) ?_
    refine zs_icmp_le (tgt := 174) dX13_rowTick_159 (by decide) (fun c_2 => ?_) (fun c_2 => ?_)
    · have c_2 : ((M.2 29) k) ≤ ((M.2 30) k) := by have hc := c_2; rw [nI_le' (by omega) (by omega)] at hc; exact hc
      refine zs_iinc (v := (nI (k + 1))) (lv' := [(1, .int (nI (k + 1))), (0, .ref mo)]) dX13_rowTick_174 rfl (nI_add _ 1) (Nat.le_of_ble_eq_true rfl) rfl ?_
      refine zs_goto (tgt := 139) dX13_rowTick_177 (by decide) ?_
      refine zs_lv [1, 0] rfl ?_
      exact ih (k + 1) M (by omega) (by omega) ((tR_mo hk1 h (by omega)).2 (by omega))
    · have c_2 : ¬ (((M.2 29) k) ≤ ((M.2 30) k)) := by have hc := c_2; rw [nI_le' (by omega) (by omega)] at hc; exact hc
      refine zs_aload_n dX13_rowTick_162 rfl rfl ?_
      refine zs_get 0 dX13_rowTick_163 zf_RX13_57 rfl (v := .ref (e 30)) rfl ?_
      refine zs_iload_n dX13_rowTick_166 rfl ?_
      refine zs_aload_n dX13_rowTick_167 rfl rfl ?_
      refine zs_get 0 dX13_rowTick_168 zf_RX13_54 rfl (v := .ref (e 29)) rfl ?_
      refine zs_iload_n dX13_rowTick_171 rfl ?_
      refine zs_iald 7 dX13_rowTick_172 rfl (vp_in_nI (by omega) (by omega)) ?_
      refine zs_as (y := nI ((M.2 29) k)) (by rw [nI_c (n := k) (by omega)]; rfl) ?_
      refine zs_iast 8 dX13_rowTick_173 rfl (vp_in_nI (by omega) (by omega)) ?_
      rw [nI_c (n := k) (by omega), nF_u]
      show zS _ _ _ _ _ _ [(mo, .inr (11, fMo e (mg g M.1) w)), ((e 14), .inl (0, 800, .inl nw)), ((e 24), .inl (0, 12, .inl (nF (M.2 24)))), ((e 25), .inl (0, 12, .inl (nF (M.2 25)))), ((e 26), .inl (0, 12, .inl (nF (M.2 26)))), ((e 27), .inl (0, 12, .inl (nF (M.2 27)))), ((e 28), .inl (0, 360, .inl (nF (M.2 28)))), ((e 29), .inl (0, 12, .inl (nF (M.2 29)))), ((e 30), .inl (0, 12, .inl (nF (un (M.2 30) k ((M.2 29) k))))), ((e 31), .inl (0, 30, .inl (nF (M.2 31)))), ((e 32), .inl (0, 12, .inl (nF (M.2 32))))]
      refine zs_iinc (v := (nI (k + 1))) (lv' := [(1, .int (nI (k + 1))), (0, .ref mo)]) dX13_rowTick_174 rfl (nI_add _ 1) (Nat.le_of_ble_eq_true rfl) rfl ?_
      refine zs_goto (tgt := 139) dX13_rowTick_177 (by decide) ?_
      refine zs_lv [1, 0] rfl ?_
      exact ih (k + 1) (M.1, uu M.2 30 (un (M.2 30) k (M.2 29 k))) (by omega) (by omega) ((tR_mo hk1 h (by omega)).1 (by omega))
set_option maxRecDepth 100000 in
theorem s_tRow (l : Launch) (dd : Nat) (mo : Nat) (e : Nat → Nat) (g : Nat → Int32) (w : Int64) (nw : Nat → Int32) (D : zYd) (c M : zRs) (P t : Nat) (hd : 4 ≤ dd) (hR : yR D nw) (hD : yI D) (hJ : cJ P t c) (hP : P ≤ 30) (htt : t + 1 ≤ 3600) (h : tR0 D (cT0 c) M) : zSp l mX13_rowTick dd 0 0 [.ref mo] (kTm mo e g w nw M) (fun r K' => r = none ∧ ∃ M', tR D (cTick (D.1 11) (D.1 10) (D.1 7) D.2.2.2.2.2.1 c) M' ∧ K' = kTm mo e g w nw M') := by
  have ht : M.1 36 ≤ 1000000 := by
    have h1 : M.1 36 = c.1 12 + 1 := h.1.2.2.1
    have := hJ.2
    omega
  refine zSp.of (by decide) (Nat.le_of_ble_eq_true rfl) (fun h0 => ?_)
  show zS _ 0 0 0 [(0, .ref mo)] [] (kTm mo e g w nw M)
  refine lp_tr1 mo e g w nw D (cT0 c) hD (fun M1 h1 => ?_) _ M rfl ht h
  have hI0 := cT0_pails hJ
  have n33 : M1.1 33 = c.1 1 := h1.1.1
  have hI1 := hI0.1
  have hI1 : 2 ≤ c.1 1 ∧ c.1 1 ≤ 12 := hI1
  refine zs_aload_n dX13_rowTick_73 rfl rfl ?_
  refine zs_get 0 dX13_rowTick_74 zf_RX13_304 rfl (v := .int (nI (M1.1 33))) rfl ?_
  refine zs_iconst (v := nI 1) dX13_rowTick_77 (by decide) ?_
  refine zs_isub dX13_rowTick_78 ?_
  refine zs_as (y := nI ((M1.1 33) - 1)) (nI_sub (by omega)) ?_
  refine zs_istore_n (lv' := [(1, .int (nI ((M1.1 33) - 1))), (0, .ref mo)]) dX13_rowTick_79 (Nat.le_of_ble_eq_true rfl) rfl ?_
  refine zs_lv [1, 0] rfl ?_
  rw [show nI (M1.1 33 - 1) = dI (c.1 1) from by rw [n33]; cases hz : c.1 1 with | zero => omega | succ q => rfl]
  refine lp_tr3 mo e g w nw D P (t + 1) (cDn (D.1 11) (D.1 10) (D.1 7) D.2.2.2.2.2.1 (c.1 1) (cT0 c)) hd hR hD hP (by omega) htt (fun M2 h2 hI2 => ?_) (c.1 1) (cT0 c) M1 (Nat.le_refl _) h1 hI0 rfl
  refine zs_iconst (v := nI 1) dX13_rowTick_137 (by decide) ?_
  refine zs_istore_n (lv' := [(1, .int (nI 1)), (0, .ref mo)]) dX13_rowTick_138 (Nat.le_of_ble_eq_true rfl) rfl ?_
  refine zs_lv [1, 0] rfl ?_
  exact lp_tr4 mo e g w nw D (cDn (D.1 11) (D.1 10) (D.1 7) D.2.2.2.2.2.1 (c.1 1) (cT0 c)) hI2.1 (fun p hp => (hI2.2.1 p hp).2.2.2.2.2.2.1) (fun p hp => (hI2.2.1 p hp).2.2.2.2.2.2.2) (fun M3 h3 => ⟨rfl, M3, h3, rfl⟩) ((cDn (D.1 11) (D.1 10) (D.1 7) D.2.2.2.2.2.1 (c.1 1) (cT0 c)).1 1 - 1) 1 M2 (by have := hI2.1; omega) (Nat.le_refl _) h2
