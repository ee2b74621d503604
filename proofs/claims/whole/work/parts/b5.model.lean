/-! ===== the reference: a tick of runners, a team begun ===== -/
theorem dX13_isDrawn_0 : decode cX13_isDrawn 0 = .ok (.iconst 0, 1) := by decide +kernel
theorem dX13_isDrawn_1 : decode cX13_isDrawn 1 = .ok (.istore_n 1, 1) := by decide +kernel
theorem dX13_isDrawn_2 : decode cX13_isDrawn 2 = .ok (.iload_n 1, 1) := by decide +kernel
theorem dX13_isDrawn_3 : decode cX13_isDrawn 3 = .ok (.aload_n 0, 1) := by decide +kernel
theorem dX13_isDrawn_4 : decode cX13_isDrawn 4 = .ok (.getfield 304, 3) := by decide +kernel
theorem dX13_isDrawn_7 : decode cX13_isDrawn 7 = .ok (.if_icmp .ge 21, 3) := by decide +kernel
theorem dX13_isDrawn_10 : decode cX13_isDrawn 10 = .ok (.aload_n 0, 1) := by decide +kernel
theorem dX13_isDrawn_11 : decode cX13_isDrawn 11 = .ok (.getfield 63, 3) := by decide +kernel
theorem dX13_isDrawn_14 : decode cX13_isDrawn 14 = .ok (.iload_n 1, 1) := by decide +kernel
theorem dX13_isDrawn_15 : decode cX13_isDrawn 15 = .ok (.iaload, 1) := by decide +kernel
theorem dX13_isDrawn_16 : decode cX13_isDrawn 16 = .ok (.iconst 1, 1) := by decide +kernel
theorem dX13_isDrawn_17 : decode cX13_isDrawn 17 = .ok (.if_icmp .ne 5, 3) := by decide +kernel
theorem dX13_isDrawn_20 : decode cX13_isDrawn 20 = .ok (.iconst 1, 1) := by decide +kernel
theorem dX13_isDrawn_21 : decode cX13_isDrawn 21 = .ok (.ireturn, 1) := by decide +kernel
theorem dX13_isDrawn_22 : decode cX13_isDrawn 22 = .ok (.iinc 1 1, 3) := by decide +kernel
theorem dX13_isDrawn_25 : decode cX13_isDrawn 25 = .ok (.goto (-23), 3) := by decide +kernel
theorem dX13_isDrawn_28 : decode cX13_isDrawn 28 = .ok (.iconst 0, 1) := by decide +kernel
theorem dX13_isDrawn_29 : decode cX13_isDrawn 29 = .ok (.ireturn, 1) := by decide +kernel
set_option maxRecDepth 100000 in
theorem lp_uDn {l : Launch} {dd : Nat} {Po : zPo} {K0 : zK} {h0 : List va_E} {Xo : zK → Prop} {Gc : zG → Prop} (mo : Nat) (e : Nat → Nat) (g : Nat → Int32) (w : Int64) (nw : Nat → Int32) (D : zYd) (M : zRs) (h33 : M.1 33 ≤ 12) (h3 : ∀ p, p < M.1 33 → M.2 32 p ≤ 3) (hP : ∀ r K', (((uDn M (M.1 33) ∧ r = some (.int 1)) ∨ (¬ uDn M (M.1 33) ∧ r = some (.int 0))) ∧ K' = kTm mo e g w nw M) → Po r K') : ∀ (m i : Nat), i + m = M.1 33 → (∀ p, p < i → ¬ M.2 32 p = 1) → zS (l, mX13_isDrawn, dd, Po, K0, h0, Xo, Gc) 0 0 2 [(0, .ref mo), (1, .int (nI i))] [] [(mo, .inr (11, fMo e (mg g M.1) w)), ((e 14), .inl (0, 800, .inl nw)), ((e 24), .inl (0, 12, .inl (nF (M.2 24)))), ((e 25), .inl (0, 12, .inl (nF (M.2 25)))), ((e 26), .inl (0, 12, .inl (nF (M.2 26)))), ((e 27), .inl (0, 12, .inl (nF (M.2 27)))), ((e 28), .inl (0, 360, .inl (nF (M.2 28)))), ((e 29), .inl (0, 12, .inl (nF (M.2 29)))), ((e 30), .inl (0, 12, .inl (nF (M.2 30)))), ((e 31), .inl (0, 30, .inl (nF (M.2 31)))), ((e 32), .inl (0, 12, .inl (nF (M.2 32))))] := by
  intro m
  induction m with
  | zero =>
    intro i hi hno
    refine zs_iload_n dX13_isDrawn_2 rfl ?_
    refine zs_aload_n dX13_isDrawn_3 rfl rfl ?_
    refine zs_get 0 dX13_isDrawn_4 zf_RX13_304 rfl (v := .int (nI (M.1 33))) rfl ?_
    refine zs_icmp_ge (tgt := 28) dX13_isDrawn_7 (by decide) (fun c_1 => ?_) (fun c_1 => (c_1 (by rw [show i = M.1 33 by omega]; exact Int32.le_refl _) : False).elim)
    refine zs_iconst (v := nI 0) dX13_isDrawn_28 (by decide) ?_
    exact zs_zret dX13_isDrawn_29 rfl (Or.inl rfl) (hP _ _ ⟨Or.inr ⟨fun ⟨p, hp, e⟩ => hno p (by omega) e, rfl⟩, rfl⟩)
  | succ m ih =>
    intro i hi hno
    refine zs_iload_n dX13_isDrawn_2 rfl ?_
    refine zs_aload_n dX13_isDrawn_3 rfl rfl ?_
    refine zs_get 0 dX13_isDrawn_4 zf_RX13_304 rfl (v := .int (nI (M.1 33))) rfl ?_
    refine zs_icmp_ge (tgt := 28) dX13_isDrawn_7 (by decide) (fun c_1 => (nI_ge (show i < M.1 33 by omega) (by omega) c_1 : False).elim) (fun c_1 => ?_)
    refine zs_aload_n dX13_isDrawn_10 rfl rfl ?_
    refine zs_get 0 dX13_isDrawn_11 zf_RX13_63 rfl (v := .ref (e 32)) rfl ?_
    refine zs_iload_n dX13_isDrawn_14 rfl ?_
    refine zs_iald 10 dX13_isDrawn_15 rfl (vp_in_nI (by omega) (by omega)) ?_
    refine zs_as (y := nI ((M.2 32) i)) (by rw [nI_c (n := i) (by omega)]; rfl) ?_
    refine zs_iconst (v := nI 1) dX13_isDrawn_16 (by decide) ?_
    have h3i := h3 i (by omega)
    refine zs_icmp_ne (tgt := 22) dX13_isDrawn_17 (by decide) (fun c_2 => ?_) (fun c_2 => ?_)
    · have c_2 : ¬ (((M.2 32) i) = 1) := by have hc := c_2; rw [nI_eq' (by omega) (by omega)] at hc; exact hc
      refine zs_iinc (v := (nI (i + 1))) (lv' := [(1, .int (nI (i + 1))), (0, .ref mo)]) dX13_isDrawn_22 rfl (nI_add _ 1) (Nat.le_of_ble_eq_true rfl) rfl ?_
      refine zs_goto (tgt := 2) dX13_isDrawn_25 (by decide) ?_
      refine zs_lv [1, 0] rfl ?_
      exact ih (i + 1) (by omega) (fun p hp => (Nat.lt_or_eq_of_le (Nat.le_of_lt_succ hp)).elim (hno p) (fun e => e ▸ (by omega)))
    · have c_2 : ((M.2 32) i) = 1 := by have hc := c_2; rw [nI_eq' (by omega) (by omega)] at hc; exact hc
      refine zs_iconst (v := nI 1) dX13_isDrawn_20 (by decide) ?_
      exact zs_zret dX13_isDrawn_21 rfl (Or.inr rfl) (hP _ _ ⟨Or.inl ⟨⟨i, by omega, by omega⟩, rfl⟩, rfl⟩)
set_option maxRecDepth 100000 in
theorem s_uDn (l : Launch) (dd : Nat) (mo : Nat) (e : Nat → Nat) (g : Nat → Int32) (w : Int64) (nw : Nat → Int32) (D : zYd) (M : zRs) (h33 : M.1 33 ≤ 12) (h3 : ∀ p, p < M.1 33 → M.2 32 p ≤ 3) : zSp l mX13_isDrawn dd 0 0 [.ref mo] [(mo, .inr (11, fMo e (mg g M.1) w)), ((e 14), .inl (0, 800, .inl nw)), ((e 24), .inl (0, 12, .inl (nF (M.2 24)))), ((e 25), .inl (0, 12, .inl (nF (M.2 25)))), ((e 26), .inl (0, 12, .inl (nF (M.2 26)))), ((e 27), .inl (0, 12, .inl (nF (M.2 27)))), ((e 28), .inl (0, 360, .inl (nF (M.2 28)))), ((e 29), .inl (0, 12, .inl (nF (M.2 29)))), ((e 30), .inl (0, 12, .inl (nF (M.2 30)))), ((e 31), .inl (0, 30, .inl (nF (M.2 31)))), ((e 32), .inl (0, 12, .inl (nF (M.2 32))))] (fun r K' => ((uDn M (M.1 33) ∧ r = some (.int 1)) ∨ (¬ uDn M (M.1 33) ∧ r = some (.int 0))) ∧ K' = kTm mo e g w nw M) := by
  refine zSp.of (by decide) (Nat.le_of_ble_eq_true rfl) (fun h0 => ?_)
  show zS _ 0 0 0 [(0, .ref mo)] [] [(mo, .inr (11, fMo e (mg g M.1) w)), ((e 14), .inl (0, 800, .inl nw)), ((e 24), .inl (0, 12, .inl (nF (M.2 24)))), ((e 25), .inl (0, 12, .inl (nF (M.2 25)))), ((e 26), .inl (0, 12, .inl (nF (M.2 26)))), ((e 27), .inl (0, 12, .inl (nF (M.2 27)))), ((e 28), .inl (0, 360, .inl (nF (M.2 28)))), ((e 29), .inl (0, 12, .inl (nF (M.2 29)))), ((e 30), .inl (0, 12, .inl (nF (M.2 30)))), ((e 31), .inl (0, 30, .inl (nF (M.2 31)))), ((e 32), .inl (0, 12, .inl (nF (M.2 32))))]
  refine zs_iconst (v := nI 0) dX13_isDrawn_0 (by decide) ?_
  refine zs_istore_n (lv' := [(1, .int (nI 0)), (0, .ref mo)]) dX13_isDrawn_1 (Nat.le_of_ble_eq_true rfl) rfl ?_
  refine zs_lv [1, 0] rfl ?_
  exact lp_uDn mo e g w nw D M h33 h3 (fun r K1 h => h) (M.1 33) 0 (Nat.zero_add _) (fun p hp => absurd hp (Nat.not_lt_zero p))
theorem dX13_runTick_0 : decode cX13_runTick 0 = .ok (.iconst 0, 1) := by decide +kernel
theorem dX13_runTick_1 : decode cX13_runTick 1 = .ok (.istore_n 1, 1) := by decide +kernel
theorem dX13_runTick_2 : decode cX13_runTick 2 = .ok (.iload_n 1, 1) := by decide +kernel
theorem dX13_runTick_3 : decode cX13_runTick 3 = .ok (.aload_n 0, 1) := by decide +kernel
theorem dX13_runTick_4 : decode cX13_runTick 4 = .ok (.getfield 304, 3) := by decide +kernel
theorem dX13_runTick_7 : decode cX13_runTick 7 = .ok (.if_icmp .ge 193, 3) := by decide +kernel
theorem dX13_runTick_10 : decode cX13_runTick 10 = .ok (.aload_n 0, 1) := by decide +kernel
theorem dX13_runTick_11 : decode cX13_runTick 11 = .ok (.getfield 13, 3) := by decide +kernel
theorem dX13_runTick_14 : decode cX13_runTick 14 = .ok (.iconst 1, 1) := by decide +kernel
theorem dX13_runTick_15 : decode cX13_runTick 15 = .ok (.iaload, 1) := by decide +kernel
theorem dX13_runTick_16 : decode cX13_runTick 16 = .ok (.aload_n 0, 1) := by decide +kernel
theorem dX13_runTick_17 : decode cX13_runTick 17 = .ok (.aload_n 0, 1) := by decide +kernel
theorem dX13_runTick_18 : decode cX13_runTick 18 = .ok (.getfield 39, 3) := by decide +kernel
theorem dX13_runTick_21 : decode cX13_runTick 21 = .ok (.iload_n 1, 1) := by decide +kernel
theorem dX13_runTick_22 : decode cX13_runTick 22 = .ok (.iaload, 1) := by decide +kernel
theorem dX13_runTick_23 : decode cX13_runTick 23 = .ok (.iconst 1, 1) := by decide +kernel
theorem dX13_runTick_24 : decode cX13_runTick 24 = .ok (.invokevirtual 294, 3) := by decide +kernel
theorem dX13_runTick_27 : decode cX13_runTick 27 = .ok (.invokestatic 328, 3) := by decide +kernel
theorem dX13_runTick_30 : decode cX13_runTick 30 = .ok (.istore_n 2, 1) := by decide +kernel
theorem dX13_runTick_31 : decode cX13_runTick 31 = .ok (.aload_n 0, 1) := by decide +kernel
theorem dX13_runTick_32 : decode cX13_runTick 32 = .ok (.getfield 42, 3) := by decide +kernel
theorem dX13_runTick_35 : decode cX13_runTick 35 = .ok (.iload_n 1, 1) := by decide +kernel
theorem dX13_runTick_36 : decode cX13_runTick 36 = .ok (.iaload, 1) := by decide +kernel
theorem dX13_runTick_37 : decode cX13_runTick 37 = .ok (.ifCond .le 102, 3) := by decide +kernel
theorem dX13_runTick_40 : decode cX13_runTick 40 = .ok (.aload_n 0, 1) := by decide +kernel
theorem dX13_runTick_41 : decode cX13_runTick 41 = .ok (.getfield 42, 3) := by decide +kernel
theorem dX13_runTick_44 : decode cX13_runTick 44 = .ok (.iload_n 1, 1) := by decide +kernel
theorem dX13_runTick_45 : decode cX13_runTick 45 = .ok (.dup2, 1) := by decide +kernel
theorem dX13_runTick_46 : decode cX13_runTick 46 = .ok (.iaload, 1) := by decide +kernel
theorem dX13_runTick_47 : decode cX13_runTick 47 = .ok (.iconst 1, 1) := by decide +kernel
theorem dX13_runTick_48 : decode cX13_runTick 48 = .ok (.isub, 1) := by decide +kernel
theorem dX13_runTick_49 : decode cX13_runTick 49 = .ok (.iastore, 1) := by decide +kernel
theorem dX13_runTick_50 : decode cX13_runTick 50 = .ok (.aload_n 0, 1) := by decide +kernel
theorem dX13_runTick_51 : decode cX13_runTick 51 = .ok (.getfield 42, 3) := by decide +kernel
theorem dX13_runTick_54 : decode cX13_runTick 54 = .ok (.iload_n 1, 1) := by decide +kernel
theorem dX13_runTick_55 : decode cX13_runTick 55 = .ok (.iaload, 1) := by decide +kernel
theorem dX13_runTick_56 : decode cX13_runTick 56 = .ok (.ifCond .ne 83, 3) := by decide +kernel
theorem dX13_runTick_59 : decode cX13_runTick 59 = .ok (.aload_n 0, 1) := by decide +kernel
theorem dX13_runTick_60 : decode cX13_runTick 60 = .ok (.getfield 63, 3) := by decide +kernel
theorem dX13_runTick_63 : decode cX13_runTick 63 = .ok (.iload_n 1, 1) := by decide +kernel
theorem dX13_runTick_64 : decode cX13_runTick 64 = .ok (.iaload, 1) := by decide +kernel
theorem dX13_runTick_65 : decode cX13_runTick 65 = .ok (.iconst 1, 1) := by decide +kernel
theorem dX13_runTick_66 : decode cX13_runTick 66 = .ok (.if_icmp .ne 20, 3) := by decide +kernel
theorem dX13_runTick_69 : decode cX13_runTick 69 = .ok (.aload_n 0, 1) := by decide +kernel
theorem dX13_runTick_70 : decode cX13_runTick 70 = .ok (.getfield 63, 3) := by decide +kernel
theorem dX13_runTick_73 : decode cX13_runTick 73 = .ok (.iload_n 1, 1) := by decide +kernel
theorem dX13_runTick_74 : decode cX13_runTick 74 = .ok (.iconst 2, 1) := by decide +kernel
theorem dX13_runTick_75 : decode cX13_runTick 75 = .ok (.iastore, 1) := by decide +kernel
theorem dX13_runTick_76 : decode cX13_runTick 76 = .ok (.aload_n 0, 1) := by decide +kernel
theorem dX13_runTick_77 : decode cX13_runTick 77 = .ok (.getfield 42, 3) := by decide +kernel
theorem dX13_runTick_80 : decode cX13_runTick 80 = .ok (.iload_n 1, 1) := by decide +kernel
theorem dX13_runTick_81 : decode cX13_runTick 81 = .ok (.iload_n 2, 1) := by decide +kernel
theorem dX13_runTick_82 : decode cX13_runTick 82 = .ok (.iastore, 1) := by decide +kernel
theorem dX13_runTick_83 : decode cX13_runTick 83 = .ok (.goto 56, 3) := by decide +kernel
theorem dX13_runTick_86 : decode cX13_runTick 86 = .ok (.aload_n 0, 1) := by decide +kernel
theorem dX13_runTick_87 : decode cX13_runTick 87 = .ok (.getfield 63, 3) := by decide +kernel
theorem dX13_runTick_90 : decode cX13_runTick 90 = .ok (.iload_n 1, 1) := by decide +kernel
theorem dX13_runTick_91 : decode cX13_runTick 91 = .ok (.iaload, 1) := by decide +kernel
theorem dX13_runTick_92 : decode cX13_runTick 92 = .ok (.iconst 2, 1) := by decide +kernel
theorem dX13_runTick_93 : decode cX13_runTick 93 = .ok (.if_icmp .ne 39, 3) := by decide +kernel
theorem dX13_runTick_96 : decode cX13_runTick 96 = .ok (.aload_n 0, 1) := by decide +kernel
theorem dX13_runTick_97 : decode cX13_runTick 97 = .ok (.dup, 1) := by decide +kernel
theorem dX13_runTick_98 : decode cX13_runTick 98 = .ok (.getfield 316, 3) := by decide +kernel
theorem dX13_runTick_101 : decode cX13_runTick 101 = .ok (.aload_n 0, 1) := by decide +kernel
theorem dX13_runTick_102 : decode cX13_runTick 102 = .ok (.getfield 45, 3) := by decide +kernel
theorem dX13_runTick_105 : decode cX13_runTick 105 = .ok (.iload_n 1, 1) := by decide +kernel
theorem dX13_runTick_106 : decode cX13_runTick 106 = .ok (.iaload, 1) := by decide +kernel
theorem dX13_runTick_107 : decode cX13_runTick 107 = .ok (.iconst 1, 1) := by decide +kernel
theorem dX13_runTick_108 : decode cX13_runTick 108 = .ok (.iadd, 1) := by decide +kernel
theorem dX13_runTick_109 : decode cX13_runTick 109 = .ok (.iconst 2, 1) := by decide +kernel
theorem dX13_runTick_110 : decode cX13_runTick 110 = .ok (.idiv, 1) := by decide +kernel
theorem dX13_runTick_111 : decode cX13_runTick 111 = .ok (.iadd, 1) := by decide +kernel
theorem dX13_runTick_112 : decode cX13_runTick 112 = .ok (.putfield 316, 3) := by decide +kernel
theorem dX13_runTick_115 : decode cX13_runTick 115 = .ok (.aload_n 0, 1) := by decide +kernel
theorem dX13_runTick_116 : decode cX13_runTick 116 = .ok (.getfield 63, 3) := by decide +kernel
theorem dX13_runTick_119 : decode cX13_runTick 119 = .ok (.iload_n 1, 1) := by decide +kernel
theorem dX13_runTick_120 : decode cX13_runTick 120 = .ok (.iconst 3, 1) := by decide +kernel
theorem dX13_runTick_121 : decode cX13_runTick 121 = .ok (.iastore, 1) := by decide +kernel
theorem dX13_runTick_122 : decode cX13_runTick 122 = .ok (.aload_n 0, 1) := by decide +kernel
theorem dX13_runTick_123 : decode cX13_runTick 123 = .ok (.getfield 42, 3) := by decide +kernel
theorem dX13_runTick_126 : decode cX13_runTick 126 = .ok (.iload_n 1, 1) := by decide +kernel
theorem dX13_runTick_127 : decode cX13_runTick 127 = .ok (.iload_n 2, 1) := by decide +kernel
theorem dX13_runTick_128 : decode cX13_runTick 128 = .ok (.iastore, 1) := by decide +kernel
theorem dX13_runTick_129 : decode cX13_runTick 129 = .ok (.goto 10, 3) := by decide +kernel
theorem dX13_runTick_132 : decode cX13_runTick 132 = .ok (.aload_n 0, 1) := by decide +kernel
theorem dX13_runTick_133 : decode cX13_runTick 133 = .ok (.getfield 63, 3) := by decide +kernel
theorem dX13_runTick_136 : decode cX13_runTick 136 = .ok (.iload_n 1, 1) := by decide +kernel
theorem dX13_runTick_137 : decode cX13_runTick 137 = .ok (.iconst 0, 1) := by decide +kernel
theorem dX13_runTick_138 : decode cX13_runTick 138 = .ok (.iastore, 1) := by decide +kernel
theorem dX13_runTick_139 : decode cX13_runTick 139 = .ok (.aload_n 0, 1) := by decide +kernel
theorem dX13_runTick_140 : decode cX13_runTick 140 = .ok (.getfield 63, 3) := by decide +kernel
theorem dX13_runTick_143 : decode cX13_runTick 143 = .ok (.iload_n 1, 1) := by decide +kernel
theorem dX13_runTick_144 : decode cX13_runTick 144 = .ok (.iaload, 1) := by decide +kernel
theorem dX13_runTick_145 : decode cX13_runTick 145 = .ok (.ifCond .ne 49, 3) := by decide +kernel
theorem dX13_runTick_148 : decode cX13_runTick 148 = .ok (.aload_n 0, 1) := by decide +kernel
theorem dX13_runTick_149 : decode cX13_runTick 149 = .ok (.getfield 334, 3) := by decide +kernel
theorem dX13_runTick_152 : decode cX13_runTick 152 = .ok (.ifCond .eq 42, 3) := by decide +kernel
theorem dX13_runTick_155 : decode cX13_runTick 155 = .ok (.aload_n 0, 1) := by decide +kernel
theorem dX13_runTick_156 : decode cX13_runTick 156 = .ok (.invokevirtual 357, 3) := by decide +kernel
theorem dX13_runTick_159 : decode cX13_runTick 159 = .ok (.ifCond .eq 6, 3) := by decide +kernel
theorem dX13_runTick_162 : decode cX13_runTick 162 = .ok (.goto 32, 3) := by decide +kernel
theorem dX13_runTick_165 : decode cX13_runTick 165 = .ok (.aload_n 0, 1) := by decide +kernel
theorem dX13_runTick_166 : decode cX13_runTick 166 = .ok (.getfield 45, 3) := by decide +kernel
theorem dX13_runTick_169 : decode cX13_runTick 169 = .ok (.iload_n 1, 1) := by decide +kernel
theorem dX13_runTick_170 : decode cX13_runTick 170 = .ok (.aload_n 0, 1) := by decide +kernel
theorem dX13_runTick_171 : decode cX13_runTick 171 = .ok (.invokevirtual 341, 3) := by decide +kernel
theorem dX13_runTick_174 : decode cX13_runTick 174 = .ok (.iastore, 1) := by decide +kernel
theorem dX13_runTick_175 : decode cX13_runTick 175 = .ok (.aload_n 0, 1) := by decide +kernel
theorem dX13_runTick_176 : decode cX13_runTick 176 = .ok (.getfield 63, 3) := by decide +kernel
theorem dX13_runTick_179 : decode cX13_runTick 179 = .ok (.iload_n 1, 1) := by decide +kernel
theorem dX13_runTick_180 : decode cX13_runTick 180 = .ok (.iconst 1, 1) := by decide +kernel
theorem dX13_runTick_181 : decode cX13_runTick 181 = .ok (.iastore, 1) := by decide +kernel
theorem dX13_runTick_182 : decode cX13_runTick 182 = .ok (.aload_n 0, 1) := by decide +kernel
theorem dX13_runTick_183 : decode cX13_runTick 183 = .ok (.getfield 42, 3) := by decide +kernel
theorem dX13_runTick_186 : decode cX13_runTick 186 = .ok (.iload_n 1, 1) := by decide +kernel
theorem dX13_runTick_187 : decode cX13_runTick 187 = .ok (.aload_n 0, 1) := by decide +kernel
theorem dX13_runTick_188 : decode cX13_runTick 188 = .ok (.getfield 13, 3) := by decide +kernel
theorem dX13_runTick_191 : decode cX13_runTick 191 = .ok (.iconst 4, 1) := by decide +kernel
theorem dX13_runTick_192 : decode cX13_runTick 192 = .ok (.iaload, 1) := by decide +kernel
theorem dX13_runTick_193 : decode cX13_runTick 193 = .ok (.iastore, 1) := by decide +kernel
theorem dX13_runTick_194 : decode cX13_runTick 194 = .ok (.iinc 1 1, 3) := by decide +kernel
theorem dX13_runTick_197 : decode cX13_runTick 197 = .ok (.goto (-195), 3) := by decide +kernel
theorem dX13_runTick_200 : decode cX13_runTick 200 = .ok (.return_, 1) := by decide +kernel
set_option maxRecDepth 100000 in
theorem ur_139 {l : Launch} {dd : Nat} {Po : zPo} {K0 : zK} {h0 : List va_E} {Xo : zK → Prop} {Gc : zG → Prop} (mo : Nat) (e : Nat → Nat) (g : Nat → Int32) (w : Int64) (nw : Nat → Int32) (D : zYd) (s1 M : zRs) (k : Nat) (hd : 2 ≤ dd) (hR : yR D nw) (hD : yI D) (h : uR D s1 M) (hk1 : k < s1.1 1) (hk : ∀ M2, uR D (rB (D.1 7) (D.1 8) s1 k) M2 → zS (l, mX13_runTick, dd, Po, K0, h0, Xo, Gc) 0 0 194 [(0, .ref mo), (1, .int (nI k))] [] [(mo, .inr (11, fMo e (mg g M2.1) w)), ((e 14), .inl (0, 800, .inl nw)), ((e 24), .inl (0, 12, .inl (nF (M2.2 24)))), ((e 25), .inl (0, 12, .inl (nF (M2.2 25)))), ((e 26), .inl (0, 12, .inl (nF (M2.2 26)))), ((e 27), .inl (0, 12, .inl (nF (M2.2 27)))), ((e 28), .inl (0, 360, .inl (nF (M2.2 28)))), ((e 29), .inl (0, 12, .inl (nF (M2.2 29)))), ((e 30), .inl (0, 12, .inl (nF (M2.2 30)))), ((e 31), .inl (0, 30, .inl (nF (M2.2 31)))), ((e 32), .inl (0, 12, .inl (nF (M2.2 32))))]) : zS (l, mX13_runTick, dd, Po, K0, h0, Xo, Gc) 0 0 139 [(0, .ref mo), (1, .int (nI k))] [] [(mo, .inr (11, fMo e (mg g M.1) w)), ((e 14), .inl (0, 800, .inl nw)), ((e 24), .inl (0, 12, .inl (nF (M.2 24)))), ((e 25), .inl (0, 12, .inl (nF (M.2 25)))), ((e 26), .inl (0, 12, .inl (nF (M.2 26)))), ((e 27), .inl (0, 12, .inl (nF (M.2 27)))), ((e 28), .inl (0, 360, .inl (nF (M.2 28)))), ((e 29), .inl (0, 12, .inl (nF (M.2 29)))), ((e 30), .inl (0, 12, .inl (nF (M.2 30)))), ((e 31), .inl (0, 30, .inl (nF (M.2 31)))), ((e 32), .inl (0, 12, .inl (nF (M.2 32))))] := by
  obtain ⟨⟨b33, b33b⟩, b24, b25, b25b, b32, b32b, b1, b35, b35b, b4, b6⟩ := uR_b h hk1
  have h3 : ∀ p, p < M.1 33 → M.2 32 p ≤ 3 := fun p hp => by
    obtain ⟨_, _, _, _, q1, q2, _⟩ := uR_b h (show p < s1.1 1 by omega)
    omega
  have h8 := hD.2.2.2.2.2.2.2.2.2.2.2.2.1
  refine zs_aload_n dX13_runTick_139 rfl rfl ?_
  refine zs_get 0 dX13_runTick_140 zf_RX13_63 rfl (v := .ref (e 32)) rfl ?_
  refine zs_iload_n dX13_runTick_143 rfl ?_
  refine zs_iald 10 dX13_runTick_144 rfl (vp_in_nI (by omega) (by omega)) ?_
  refine zs_as (y := nI ((M.2 32) k)) (by rw [nI_c (n := k) (by omega)]; rfl) ?_
  refine zs_if_ne (tgt := 194) dX13_runTick_145 (by decide) (fun c_1 => ?_) (fun c_1 => ?_)
  · have c_1 : ¬ (((M.2 32) k) = 0) := by have hc := c_1; rw [show (0 : Int32) = nI 0 from rfl] at hc; rw [nI_eq' (by omega) (by omega)] at hc; exact hc
    refine zs_lv [0, 1] rfl ?_
    exact hk M (by rw [uR_st (Or.inl (by omega))]; exact h)
  · have c_1 : ((M.2 32) k) = 0 := by have hc := c_1; rw [show (0 : Int32) = nI 0 from rfl] at hc; rw [nI_eq' (by omega) (by omega)] at hc; exact hc
    refine zs_aload_n dX13_runTick_148 rfl rfl ?_
    refine zs_get 0 dX13_runTick_149 zf_RX13_334 rfl (v := .int (nI (M.1 35))) rfl ?_
    refine zs_if_eq (tgt := 194) dX13_runTick_152 (by decide) (fun c_2 => ?_) (fun c_2 => ?_)
    · have c_2 : (M.1 35) = 0 := by have hc := c_2; rw [show (0 : Int32) = nI 0 from rfl] at hc; rw [nI_eq' (by omega) (by omega)] at hc; exact hc
      refine zs_lv [0, 1] rfl ?_
      exact hk M (by rw [uR_st (Or.inr (Or.inl (by omega)))]; exact h)
    · have c_2 : ¬ ((M.1 35) = 0) := by have hc := c_2; rw [show (0 : Int32) = nI 0 from rfl] at hc; rw [nI_eq' (by omega) (by omega)] at hc; exact hc
      refine zs_aload_n dX13_runTick_155 rfl rfl ?_
      refine zs_callV (M := mX13_isDrawn) (As := []) (st := []) (Kc := [(mo, .inr (11, fMo e (mg g M.1) w)), ((e 14), .inl (0, 800, .inl nw)), ((e 24), .inl (0, 12, .inl (nF (M.2 24)))), ((e 25), .inl (0, 12, .inl (nF (M.2 25)))), ((e 26), .inl (0, 12, .inl (nF (M.2 26)))), ((e 27), .inl (0, 12, .inl (nF (M.2 27)))), ((e 28), .inl (0, 360, .inl (nF (M.2 28)))), ((e 29), .inl (0, 12, .inl (nF (M.2 29)))), ((e 30), .inl (0, 12, .inl (nF (M.2 30)))), ((e 31), .inl (0, 30, .inl (nF (M.2 31)))), ((e 32), .inl (0, 12, .inl (nF (M.2 32))))]) (Kr := []) [0, 1, 2, 3, 4, 5, 6, 7, 8, 9, 10] [] 0 dX13_runTick_156 zl_RX13_357 kX13_isDrawn rfl rfl rfl rfl rfl (by decide) rfl rfl (show dd - 1 + 1 ≤ dd by omega) (Nat.zero_le _) (Nat.zero_le _) (Nat.le_of_ble_eq_true rfl) (s_uDn l (dd - 1) mo e g w nw D M (by omega) h3) (fun r K1 hr => ?_)
      obtain ⟨hr, rfl⟩ := hr
      rcases hr with ⟨hdn, rfl⟩ | ⟨hdn, rfl⟩
      · refine zs_K (K' := [(mo, .inr (11, fMo e (mg g M.1) w)), ((e 14), .inl (0, 800, .inl nw)), ((e 24), .inl (0, 12, .inl (nF (M.2 24)))), ((e 25), .inl (0, 12, .inl (nF (M.2 25)))), ((e 26), .inl (0, 12, .inl (nF (M.2 26)))), ((e 27), .inl (0, 12, .inl (nF (M.2 27)))), ((e 28), .inl (0, 360, .inl (nF (M.2 28)))), ((e 29), .inl (0, 12, .inl (nF (M.2 29)))), ((e 30), .inl (0, 12, .inl (nF (M.2 30)))), ((e 31), .inl (0, 30, .inl (nF (M.2 31)))), ((e 32), .inl (0, 12, .inl (nF (M.2 32))))]) [0, 1, 2, 3, 4, 5, 6, 7, 8, 9, 10] rfl (by decide) ?_
        refine zs_if_eq (tgt := 165) dX13_runTick_159 (by decide) (fun c_3 => (by first | exact absurd c_3 (by decide) | exact absurd (by decide) c_3 : False).elim) (fun c_3 => ?_)
        refine zs_goto (tgt := 194) dX13_runTick_162 (by decide) ?_
        refine zs_lv [0, 1] rfl ?_
        exact hk M (by rw [uR_st (Or.inr (Or.inr (by have h6 := (uR_dn h).mp (by rw [← b33]; exact hdn); omega)))]; exact h)
      · refine zs_K (K' := [(mo, .inr (11, fMo e (mg g M.1) w)), ((e 14), .inl (0, 800, .inl nw)), ((e 24), .inl (0, 12, .inl (nF (M.2 24)))), ((e 25), .inl (0, 12, .inl (nF (M.2 25)))), ((e 26), .inl (0, 12, .inl (nF (M.2 26)))), ((e 27), .inl (0, 12, .inl (nF (M.2 27)))), ((e 28), .inl (0, 360, .inl (nF (M.2 28)))), ((e 29), .inl (0, 12, .inl (nF (M.2 29)))), ((e 30), .inl (0, 12, .inl (nF (M.2 30)))), ((e 31), .inl (0, 30, .inl (nF (M.2 31)))), ((e 32), .inl (0, 12, .inl (nF (M.2 32))))]) [0, 1, 2, 3, 4, 5, 6, 7, 8, 9, 10] rfl (by decide) ?_
        refine zs_if_eq (tgt := 165) dX13_runTick_159 (by decide) (fun c_4 => ?_) (fun c_4 => (by first | exact absurd c_4 (by decide) | exact absurd (by decide) c_4 : False).elim)
        refine zs_aload_n dX13_runTick_165 rfl rfl ?_
        refine zs_get 0 dX13_runTick_166 zf_RX13_45 rfl (v := .ref (e 26)) rfl ?_
        refine zs_iload_n dX13_runTick_169 rfl ?_
        refine zs_aload_n dX13_runTick_170 rfl rfl ?_
        refine zs_callV (M := mX13_draws) (As := []) (st := [.int (nI k), .ref (e 26)]) (Kc := [(mo, .inr (11, fMo e (mg g M.1) w)), ((e 14), .inl (0, 800, .inl nw)), ((e 24), .inl (0, 12, .inl (nF (M.2 24)))), ((e 25), .inl (0, 12, .inl (nF (M.2 25)))), ((e 26), .inl (0, 12, .inl (nF (M.2 26)))), ((e 27), .inl (0, 12, .inl (nF (M.2 27)))), ((e 28), .inl (0, 360, .inl (nF (M.2 28)))), ((e 29), .inl (0, 12, .inl (nF (M.2 29)))), ((e 30), .inl (0, 12, .inl (nF (M.2 30)))), ((e 31), .inl (0, 30, .inl (nF (M.2 31)))), ((e 32), .inl (0, 12, .inl (nF (M.2 32))))]) (Kr := []) [0, 1, 2, 3, 4, 5, 6, 7, 8, 9, 10] [] 0 dX13_runTick_171 zl_RX13_341 kX13_draws rfl rfl rfl rfl rfl (by decide) rfl rfl (show dd - 1 + 1 ≤ dd by omega) (Nat.zero_le _) (Nat.zero_le _) (Nat.le_of_ble_eq_true rfl) (s_tDraws l (dd - 1) mo e g w nw D M hR hD (by omega)) (fun r K1 hr => ?_)
        obtain ⟨rfl, rfl⟩ := hr
        refine zs_K (K' := [(mo, .inr (11, fMo e (mg g ((tmDr (D.1 7) M).1)) w)), ((e 14), .inl (0, 800, .inl nw)), ((e 24), .inl (0, 12, .inl (nF ((tmDr (D.1 7) M).2 24)))), ((e 25), .inl (0, 12, .inl (nF ((tmDr (D.1 7) M).2 25)))), ((e 26), .inl (0, 12, .inl (nF ((tmDr (D.1 7) M).2 26)))), ((e 27), .inl (0, 12, .inl (nF ((tmDr (D.1 7) M).2 27)))), ((e 28), .inl (0, 360, .inl (nF ((tmDr (D.1 7) M).2 28)))), ((e 29), .inl (0, 12, .inl (nF ((tmDr (D.1 7) M).2 29)))), ((e 30), .inl (0, 12, .inl (nF ((tmDr (D.1 7) M).2 30)))), ((e 31), .inl (0, 30, .inl (nF ((tmDr (D.1 7) M).2 31)))), ((e 32), .inl (0, 12, .inl (nF ((tmDr (D.1 7) M).2 32))))]) [0, 1, 2, 3, 4, 5, 6, 7, 8, 9, 10] rfl (by decide) ?_
        refine zs_iast 4 dX13_runTick_174 rfl (vp_in_nI (by omega) (by omega)) ?_
        rw [nI_c (n := k) (by omega), nF_u]
        show zS _ _ _ _ _ _ [(mo, .inr (11, fMo e (mg g ((tmDr (D.1 7) M).1)) w)), ((e 14), .inl (0, 800, .inl nw)), ((e 24), .inl (0, 12, .inl (nF ((tmDr (D.1 7) M).2 24)))), ((e 25), .inl (0, 12, .inl (nF ((tmDr (D.1 7) M).2 25)))), ((e 26), .inl (0, 12, .inl (nF (un ((tmDr (D.1 7) M).2 26) k (tV (D.1 7) M))))), ((e 27), .inl (0, 12, .inl (nF ((tmDr (D.1 7) M).2 27)))), ((e 28), .inl (0, 360, .inl (nF ((tmDr (D.1 7) M).2 28)))), ((e 29), .inl (0, 12, .inl (nF ((tmDr (D.1 7) M).2 29)))), ((e 30), .inl (0, 12, .inl (nF ((tmDr (D.1 7) M).2 30)))), ((e 31), .inl (0, 30, .inl (nF ((tmDr (D.1 7) M).2 31)))), ((e 32), .inl (0, 12, .inl (nF ((tmDr (D.1 7) M).2 32))))]
        refine zs_aload_n dX13_runTick_175 rfl rfl ?_
        refine zs_get 0 dX13_runTick_176 zf_RX13_63 rfl (v := .ref (e 32)) rfl ?_
        refine zs_iload_n dX13_runTick_179 rfl ?_
        refine zs_iconst (v := nI 1) dX13_runTick_180 (by decide) ?_
        refine zs_iast 10 dX13_runTick_181 rfl (vp_in_nI (by omega) (by omega)) ?_
        rw [nI_c (n := k) (by omega), nF_u]
        show zS _ _ _ _ _ _ [(mo, .inr (11, fMo e (mg g ((tmDr (D.1 7) M).1)) w)), ((e 14), .inl (0, 800, .inl nw)), ((e 24), .inl (0, 12, .inl (nF ((tmDr (D.1 7) M).2 24)))), ((e 25), .inl (0, 12, .inl (nF ((tmDr (D.1 7) M).2 25)))), ((e 26), .inl (0, 12, .inl (nF (un ((tmDr (D.1 7) M).2 26) k (tV (D.1 7) M))))), ((e 27), .inl (0, 12, .inl (nF ((tmDr (D.1 7) M).2 27)))), ((e 28), .inl (0, 360, .inl (nF ((tmDr (D.1 7) M).2 28)))), ((e 29), .inl (0, 12, .inl (nF ((tmDr (D.1 7) M).2 29)))), ((e 30), .inl (0, 12, .inl (nF ((tmDr (D.1 7) M).2 30)))), ((e 31), .inl (0, 30, .inl (nF ((tmDr (D.1 7) M).2 31)))), ((e 32), .inl (0, 12, .inl (nF (un ((tmDr (D.1 7) M).2 32) k 1))))]
        refine zs_aload_n dX13_runTick_182 rfl rfl ?_
        refine zs_get 0 dX13_runTick_183 zf_RX13_42 rfl (v := .ref (e 25)) rfl ?_
        refine zs_iload_n dX13_runTick_186 rfl ?_
        refine zs_aload_n dX13_runTick_187 rfl rfl ?_
        refine zs_get 0 dX13_runTick_188 zf_RX13_13 rfl (v := .ref (e 14)) rfl ?_
        refine zs_iconst (v := nI 4) dX13_runTick_191 (by decide) ?_
        refine zs_iald 1 dX13_runTick_192 rfl (vp_in_nI (by omega) (by omega)) ?_
        refine zs_as (y := nI (D.1 8)) (by rw [nI_c (n := 4) (by omega)]; exact hR.2.2.2.2.1) ?_
        refine zs_iast 3 dX13_runTick_193 rfl (vp_in_nI (by omega) (by omega)) ?_
        rw [nI_c (n := k) (by omega), nF_u]
        show zS _ _ _ _ _ _ [(mo, .inr (11, fMo e (mg g ((tmDr (D.1 7) M).1)) w)), ((e 14), .inl (0, 800, .inl nw)), ((e 24), .inl (0, 12, .inl (nF ((tmDr (D.1 7) M).2 24)))), ((e 25), .inl (0, 12, .inl (nF (un ((tmDr (D.1 7) M).2 25) k (D.1 8))))), ((e 26), .inl (0, 12, .inl (nF (un ((tmDr (D.1 7) M).2 26) k (tV (D.1 7) M))))), ((e 27), .inl (0, 12, .inl (nF ((tmDr (D.1 7) M).2 27)))), ((e 28), .inl (0, 360, .inl (nF ((tmDr (D.1 7) M).2 28)))), ((e 29), .inl (0, 12, .inl (nF ((tmDr (D.1 7) M).2 29)))), ((e 30), .inl (0, 12, .inl (nF ((tmDr (D.1 7) M).2 30)))), ((e 31), .inl (0, 30, .inl (nF ((tmDr (D.1 7) M).2 31)))), ((e 32), .inl (0, 12, .inl (nF (un ((tmDr (D.1 7) M).2 32) k 1))))]
        refine zs_lv [0, 1] rfl ?_
        exact hk (tmB D M k) (uR_dr hD h hk1 (by omega) (by have h6 := mt (uR_dn h).mpr (fun q => hdn (by rw [b33]; exact q)); omega) (by omega))
set_option maxRecDepth 100000 in
theorem lp_uru {l : Launch} {dd : Nat} {Po : zPo} {K0 : zK} {h0 : List va_E} {Xo : zK → Prop} {Gc : zG → Prop} (mo : Nat) (e : Nat → Nat) (g : Nat → Int32) (w : Int64) (nw : Nat → Int32) (D : zYd) (s0 : zRs) (hd : 3 ≤ dd) (hR : yR D nw) (hD : yI D) (hPo : ∀ r K', (r = none ∧ ∃ M', uR D (rPl (D.1 7) (D.1 8) s0 (s0.1 1)) M' ∧ K' = kTm mo e g w nw M') → Po r K') : ∀ (m k : Nat) (M : zRs), k + m = s0.1 1 → uR D (rPl (D.1 7) (D.1 8) s0 k) M → zS (l, mX13_runTick, dd, Po, K0, h0, Xo, Gc) 0 0 2 [(0, .ref mo), (1, .int (nI k))] [] [(mo, .inr (11, fMo e (mg g M.1) w)), ((e 14), .inl (0, 800, .inl nw)), ((e 24), .inl (0, 12, .inl (nF (M.2 24)))), ((e 25), .inl (0, 12, .inl (nF (M.2 25)))), ((e 26), .inl (0, 12, .inl (nF (M.2 26)))), ((e 27), .inl (0, 12, .inl (nF (M.2 27)))), ((e 28), .inl (0, 360, .inl (nF (M.2 28)))), ((e 29), .inl (0, 12, .inl (nF (M.2 29)))), ((e 30), .inl (0, 12, .inl (nF (M.2 30)))), ((e 31), .inl (0, 30, .inl (nF (M.2 31)))), ((e 32), .inl (0, 12, .inl (nF (M.2 32))))] := by
  intro m
  induction m with
  | zero =>
    intro k M hkm h
    have b33 : M.1 33 = s0.1 1 := h.1.1.trans (rPl_m _ _ _ _)
    refine zs_iload_n dX13_runTick_2 rfl ?_
    refine zs_aload_n dX13_runTick_3 rfl rfl ?_
    refine zs_get 0 dX13_runTick_4 zf_RX13_304 rfl (v := .int (nI (M.1 33))) rfl ?_
    refine zs_icmp_ge (tgt := 200) dX13_runTick_7 (by decide) (fun c_1 => ?_) (fun c_1 => (c_1 (by rw [show k = M.1 33 by omega]; exact Int32.le_refl _) : False).elim)
    exact zs_vret dX13_runTick_200 rfl (hPo _ _ ⟨rfl, M, by rw [show k = s0.1 1 by omega] at h; exact h, rfl⟩)
  | succ m ih =>
    intro k M hkm h
    have hk1 : k < (rPl (D.1 7) (D.1 8) s0 k).1 1 := by rw [rPl_m]; omega
    have e33 : (rPl (D.1 7) (D.1 8) s0 k).1 1 = s0.1 1 := rPl_m _ _ _ _
    obtain ⟨⟨b33, b33b⟩, b24, b25, b25b, b32, b32b, b1, b35, b35b, b4, b6⟩ := uR_b h hk1
    have hD0 := hD.1
    have h5 := hD.2.2.2.2.2.2.2.2.2.1
    have hpc := (hD.2.2.2.2.2.2.2.1 (M.2 24 k)).2.1
    have hpc1 := (hD.2.2.2.2.2.2.2.2.1 (M.2 24 k) b24).2.1
    refine zs_iload_n dX13_runTick_2 rfl ?_
    refine zs_aload_n dX13_runTick_3 rfl rfl ?_
    refine zs_get 0 dX13_runTick_4 zf_RX13_304 rfl (v := .int (nI (M.1 33))) rfl ?_
    refine zs_icmp_ge (tgt := 200) dX13_runTick_7 (by decide) (fun c_1 => (nI_ge (show k < M.1 33 by omega) (by omega) c_1 : False).elim) (fun c_1 => ?_)
    refine zs_aload_n dX13_runTick_10 rfl rfl ?_
    refine zs_get 0 dX13_runTick_11 zf_RX13_13 rfl (v := .ref (e 14)) rfl ?_
    refine zs_iconst (v := nI 1) dX13_runTick_14 (by decide) ?_
    refine zs_iald 1 dX13_runTick_15 rfl (vp_in_nI (by omega) (by omega)) ?_
    refine zs_as (y := nI (D.1 5)) (by rw [nI_c (n := 1) (by omega)]; exact hR.2.1) ?_
    refine zs_aload_n dX13_runTick_16 rfl rfl ?_
    refine zs_aload_n dX13_runTick_17 rfl rfl ?_
    refine zs_get 0 dX13_runTick_18 zf_RX13_39 rfl (v := .ref (e 24)) rfl ?_
    refine zs_iload_n dX13_runTick_21 rfl ?_
    refine zs_iald 2 dX13_runTick_22 rfl (vp_in_nI (by omega) (by omega)) ?_
    refine zs_as (y := nI ((M.2 24) k)) (by rw [nI_c (n := k) (by omega)]; rfl) ?_
    refine zs_iconst (v := nI 1) dX13_runTick_23 (by decide) ?_
    refine zs_callV (M := mX13_manOf) (As := [.int (nI ((M.2 24) k)), .int (nI 1)]) (st := [.int (nI (D.1 5))]) (Kc := [(mo, .inr (11, fMo e (mg g M.1) w)), ((e 14), .inl (0, 800, .inl nw))]) (Kr := [((e 24), .inl (0, 12, .inl (nF (M.2 24)))), ((e 25), .inl (0, 12, .inl (nF (M.2 25)))), ((e 26), .inl (0, 12, .inl (nF (M.2 26)))), ((e 27), .inl (0, 12, .inl (nF (M.2 27)))), ((e 28), .inl (0, 360, .inl (nF (M.2 28)))), ((e 29), .inl (0, 12, .inl (nF (M.2 29)))), ((e 30), .inl (0, 12, .inl (nF (M.2 30)))), ((e 31), .inl (0, 30, .inl (nF (M.2 31)))), ((e 32), .inl (0, 12, .inl (nF (M.2 32))))]) [0, 1] [2, 3, 4, 5, 6, 7, 8, 9, 10] 0 dX13_runTick_24 zl_RX13_294 kX13_manOf rfl rfl rfl rfl rfl (by decide) rfl rfl (show dd - 1 + 1 ≤ dd by omega) (Nat.zero_le _) (Nat.zero_le _) (Nat.le_of_ble_eq_true rfl) (s_mManOf l (dd - 1) mo e (mg g M.1) w nw D ((M.2 24) k) 1 hR b24 hD0 (by decide)) (fun r K1 hr => ?_)
    obtain ⟨rfl, rfl⟩ := hr
    refine zs_K (K' := [(mo, .inr (11, fMo e (mg g M.1) w)), ((e 14), .inl (0, 800, .inl nw)), ((e 24), .inl (0, 12, .inl (nF (M.2 24)))), ((e 25), .inl (0, 12, .inl (nF (M.2 25)))), ((e 26), .inl (0, 12, .inl (nF (M.2 26)))), ((e 27), .inl (0, 12, .inl (nF (M.2 27)))), ((e 28), .inl (0, 360, .inl (nF (M.2 28)))), ((e 29), .inl (0, 12, .inl (nF (M.2 29)))), ((e 30), .inl (0, 12, .inl (nF (M.2 30)))), ((e 31), .inl (0, 30, .inl (nF (M.2 31)))), ((e 32), .inl (0, 12, .inl (nF (M.2 32))))]) [9, 10, 0, 1, 2, 3, 4, 5, 6, 7, 8] rfl (by decide) ?_
    refine zs_callS (M := mX13_up) (As := [.int (nI (D.1 5)), .int (nI (D.2.2.2.2.1 ((M.2 24) k)))]) (st := []) (Kc := []) (Kr := [(mo, .inr (11, fMo e (mg g M.1) w)), ((e 14), .inl (0, 800, .inl nw)), ((e 24), .inl (0, 12, .inl (nF (M.2 24)))), ((e 25), .inl (0, 12, .inl (nF (M.2 25)))), ((e 26), .inl (0, 12, .inl (nF (M.2 26)))), ((e 27), .inl (0, 12, .inl (nF (M.2 27)))), ((e 28), .inl (0, 360, .inl (nF (M.2 28)))), ((e 29), .inl (0, 12, .inl (nF (M.2 29)))), ((e 30), .inl (0, 12, .inl (nF (M.2 30)))), ((e 31), .inl (0, 30, .inl (nF (M.2 31)))), ((e 32), .inl (0, 12, .inl (nF (M.2 32))))]) [] [0, 1, 2, 3, 4, 5, 6, 7, 8, 9, 10] dX13_runTick_27 zl_RX13_328 kX13_up rfl rfl rfl rfl rfl (by decide) (show dd - 1 + 1 ≤ dd by omega) (Nat.zero_le _) (Nat.zero_le _) (Nat.le_of_ble_eq_true rfl) (s_mUp l (dd - 1) (D.1 5) (D.2.2.2.2.1 ((M.2 24) k)) (by omega) (by omega)) (fun r K1 hr => ?_)
    obtain ⟨rfl, rfl⟩ := hr
    refine zs_K (K' := [(mo, .inr (11, fMo e (mg g M.1) w)), ((e 14), .inl (0, 800, .inl nw)), ((e 24), .inl (0, 12, .inl (nF (M.2 24)))), ((e 25), .inl (0, 12, .inl (nF (M.2 25)))), ((e 26), .inl (0, 12, .inl (nF (M.2 26)))), ((e 27), .inl (0, 12, .inl (nF (M.2 27)))), ((e 28), .inl (0, 360, .inl (nF (M.2 28)))), ((e 29), .inl (0, 12, .inl (nF (M.2 29)))), ((e 30), .inl (0, 12, .inl (nF (M.2 30)))), ((e 31), .inl (0, 30, .inl (nF (M.2 31)))), ((e 32), .inl (0, 12, .inl (nF (M.2 32))))]) [0, 1, 2, 3, 4, 5, 6, 7, 8, 9, 10] rfl (by decide) ?_
    refine zs_istore_n (lv' := [(2, .int (nI (nUp (D.1 5) (D.2.2.2.2.1 ((M.2 24) k))))), (0, .ref mo), (1, .int (nI k))]) dX13_runTick_30 (Nat.le_of_ble_eq_true rfl) rfl ?_
    refine zs_aload_n dX13_runTick_31 rfl rfl ?_
    refine zs_get 0 dX13_runTick_32 zf_RX13_42 rfl (v := .ref (e 25)) rfl ?_
    refine zs_iload_n dX13_runTick_35 rfl ?_
    refine zs_iald 3 dX13_runTick_36 rfl (vp_in_nI (by omega) (by omega)) ?_
    refine zs_as (y := nI ((M.2 25) k)) (by rw [nI_c (n := k) (by omega)]; rfl) ?_
    refine zs_if_le (tgt := 139) dX13_runTick_37 (by decide) (fun c_2 => ?_) (fun c_2 => ?_)
    · have c_2 : ((M.2 25) k) ≤ 0 := by have hc := c_2; rw [show (0 : Int32) = nI 0 from rfl] at hc; rw [nI_le' (by omega) (by omega)] at hc; exact hc
      refine zs_lv [1, 2] rfl ?_
      refine ur_139 mo e g w nw D (rA (rPl (D.1 7) (D.1 8) s0 k) k) M k (by omega) hR hD (by rw [rA, if_pos (show (rPl (D.1 7) (D.1 8) s0 k).2 3 k = 0 by omega)]; exact h) (by rw [rA_m]; exact hk1) (fun M2 h2 => ?_)
      refine zs_iinc (v := (nI (k + 1))) (lv' := [(1, .int (nI (k + 1))), (0, .ref mo)]) dX13_runTick_194 rfl (nI_add _ 1) (Nat.le_of_ble_eq_true rfl) rfl ?_
      refine zs_goto (tgt := 2) dX13_runTick_197 (by decide) ?_
      refine zs_lv [1, 0] rfl ?_
      exact ih (k + 1) M2 (by omega) h2
    · have c_2 : ¬ (((M.2 25) k) ≤ 0) := by have hc := c_2; rw [show (0 : Int32) = nI 0 from rfl] at hc; rw [nI_le' (by omega) (by omega)] at hc; exact hc
      refine zs_aload_n dX13_runTick_40 rfl rfl ?_
      refine zs_get 0 dX13_runTick_41 zf_RX13_42 rfl (v := .ref (e 25)) rfl ?_
      refine zs_iload_n dX13_runTick_44 rfl ?_
      refine zs_dup2 dX13_runTick_45 rfl rfl ?_
      refine zs_iald 3 dX13_runTick_46 rfl (vp_in_nI (by omega) (by omega)) ?_
      refine zs_as (y := nI ((M.2 25) k)) (by rw [nI_c (n := k) (by omega)]; rfl) ?_
      refine zs_iconst (v := nI 1) dX13_runTick_47 (by decide) ?_
      refine zs_isub dX13_runTick_48 ?_
      refine zs_as (y := nI (((M.2 25) k) - 1)) (nI_sub (by omega)) ?_
      refine zs_iast 3 dX13_runTick_49 rfl (vp_in_nI (by omega) (by omega)) ?_
      rw [nI_c (n := k) (by omega), nF_u]
      show zS _ _ _ _ _ _ [(mo, .inr (11, fMo e (mg g M.1) w)), ((e 14), .inl (0, 800, .inl nw)), ((e 24), .inl (0, 12, .inl (nF (M.2 24)))), ((e 25), .inl (0, 12, .inl (nF (un (M.2 25) k (((M.2 25) k) - 1))))), ((e 26), .inl (0, 12, .inl (nF (M.2 26)))), ((e 27), .inl (0, 12, .inl (nF (M.2 27)))), ((e 28), .inl (0, 360, .inl (nF (M.2 28)))), ((e 29), .inl (0, 12, .inl (nF (M.2 29)))), ((e 30), .inl (0, 12, .inl (nF (M.2 30)))), ((e 31), .inl (0, 30, .inl (nF (M.2 31)))), ((e 32), .inl (0, 12, .inl (nF (M.2 32))))]
      refine zs_aload_n dX13_runTick_50 rfl rfl ?_
      refine zs_get 0 dX13_runTick_51 zf_RX13_42 rfl (v := .ref (e 25)) rfl ?_
      refine zs_iload_n dX13_runTick_54 rfl ?_
      refine zs_iald 3 dX13_runTick_55 rfl (vp_in_nI (by omega) (by omega)) ?_
      refine zs_as (y := nI (((M.2 25) k) - 1)) (by rw [nI_c (n := k) (by omega)]; exact congrArg nI (if_pos rfl)) ?_
      refine zs_if_ne (tgt := 139) dX13_runTick_56 (by decide) (fun c_3 => ?_) (fun c_3 => ?_)
      · have c_3 : ¬ ((((M.2 25) k) - 1) = 0) := by have hc := c_3; rw [show (0 : Int32) = nI 0 from rfl] at hc; rw [nI_eq' (by omega) (by omega)] at hc; exact hc
        refine zs_lv [1, 2] rfl ?_
        refine ur_139 mo e g w nw D (rA (rPl (D.1 7) (D.1 8) s0 k) k) (tmDe M k) k (by omega) hR hD (by rw [rA, if_neg (show ¬ (rPl (D.1 7) (D.1 8) s0 k).2 3 k = 0 by omega), if_neg (show ¬ (rPl (D.1 7) (D.1 8) s0 k).2 3 k - 1 = 0 by omega)]; exact uR_de h hk1) (by rw [rA_m]; exact hk1) (fun M2 h2 => ?_)
        refine zs_iinc (v := (nI (k + 1))) (lv' := [(1, .int (nI (k + 1))), (0, .ref mo)]) dX13_runTick_194 rfl (nI_add _ 1) (Nat.le_of_ble_eq_true rfl) rfl ?_
        refine zs_goto (tgt := 2) dX13_runTick_197 (by decide) ?_
        refine zs_lv [1, 0] rfl ?_
        exact ih (k + 1) M2 (by omega) h2
      · have c_3 : (((M.2 25) k) - 1) = 0 := by have hc := c_3; rw [show (0 : Int32) = nI 0 from rfl] at hc; rw [nI_eq' (by omega) (by omega)] at hc; exact hc
        refine zs_aload_n dX13_runTick_59 rfl rfl ?_
        refine zs_get 0 dX13_runTick_60 zf_RX13_63 rfl (v := .ref (e 32)) rfl ?_
        refine zs_iload_n dX13_runTick_63 rfl ?_
        refine zs_iald 10 dX13_runTick_64 rfl (vp_in_nI (by omega) (by omega)) ?_
        refine zs_as (y := nI ((M.2 32) k)) (by rw [nI_c (n := k) (by omega)]; rfl) ?_
        refine zs_iconst (v := nI 1) dX13_runTick_65 (by decide) ?_
        refine zs_icmp_ne (tgt := 86) dX13_runTick_66 (by decide) (fun c_4 => ?_) (fun c_4 => ?_)
        · have c_4 : ¬ (((M.2 32) k) = 1) := by have hc := c_4; rw [nI_eq' (by omega) (by omega)] at hc; exact hc
          refine zs_aload_n dX13_runTick_86 rfl rfl ?_
          refine zs_get 0 dX13_runTick_87 zf_RX13_63 rfl (v := .ref (e 32)) rfl ?_
          refine zs_iload_n dX13_runTick_90 rfl ?_
          refine zs_iald 10 dX13_runTick_91 rfl (vp_in_nI (by omega) (by omega)) ?_
          refine zs_as (y := nI ((M.2 32) k)) (by rw [nI_c (n := k) (by omega)]; rfl) ?_
          refine zs_iconst (v := nI 2) dX13_runTick_92 (by decide) ?_
          refine zs_icmp_ne (tgt := 132) dX13_runTick_93 (by decide) (fun c_5 => ?_) (fun c_5 => ?_)
          · have c_5 : ¬ (((M.2 32) k) = 2) := by have hc := c_5; rw [nI_eq' (by omega) (by omega)] at hc; exact hc
            refine zs_aload_n dX13_runTick_132 rfl rfl ?_
            refine zs_get 0 dX13_runTick_133 zf_RX13_63 rfl (v := .ref (e 32)) rfl ?_
            refine zs_iload_n dX13_runTick_136 rfl ?_
            refine zs_iconst (v := nI 0) dX13_runTick_137 (by decide) ?_
            refine zs_iast 10 dX13_runTick_138 rfl (vp_in_nI (by omega) (by omega)) ?_
            rw [nI_c (n := k) (by omega), nF_u]
            show zS _ _ _ _ _ _ [(mo, .inr (11, fMo e (mg g M.1) w)), ((e 14), .inl (0, 800, .inl nw)), ((e 24), .inl (0, 12, .inl (nF (M.2 24)))), ((e 25), .inl (0, 12, .inl (nF (un (M.2 25) k (((M.2 25) k) - 1))))), ((e 26), .inl (0, 12, .inl (nF (M.2 26)))), ((e 27), .inl (0, 12, .inl (nF (M.2 27)))), ((e 28), .inl (0, 360, .inl (nF (M.2 28)))), ((e 29), .inl (0, 12, .inl (nF (M.2 29)))), ((e 30), .inl (0, 12, .inl (nF (M.2 30)))), ((e 31), .inl (0, 30, .inl (nF (M.2 31)))), ((e 32), .inl (0, 12, .inl (nF (un (M.2 32) k 0))))]
            refine zs_lv [1, 2] rfl ?_
            refine ur_139 mo e g w nw D (rA (rPl (D.1 7) (D.1 8) s0 k) k) (M.1, uu (uu M.2 25 (un (M.2 25) k (M.2 25 k - 1))) 32 (un (M.2 32) k 0)) k (by omega) hR hD (by rw [rA, if_neg (show ¬ (rPl (D.1 7) (D.1 8) s0 k).2 3 k = 0 by omega), if_pos (show (rPl (D.1 7) (D.1 8) s0 k).2 3 k - 1 = 0 by omega)]; exact uR_f3 h hk1 (by omega) (by omega)) (by rw [rA_m]; exact hk1) (fun M2 h2 => ?_)
            refine zs_iinc (v := (nI (k + 1))) (lv' := [(1, .int (nI (k + 1))), (0, .ref mo)]) dX13_runTick_194 rfl (nI_add _ 1) (Nat.le_of_ble_eq_true rfl) rfl ?_
            refine zs_goto (tgt := 2) dX13_runTick_197 (by decide) ?_
            refine zs_lv [1, 0] rfl ?_
            exact ih (k + 1) M2 (by omega) h2
          · have c_5 : ((M.2 32) k) = 2 := by have hc := c_5; rw [nI_eq' (by omega) (by omega)] at hc; exact hc
            have h26 : M.2 26 k ≤ 20 := by rw [(h.2.1 k hk1).2.2.2.2 (Or.inr (by omega))]; omega
            refine zs_aload_n dX13_runTick_96 rfl rfl ?_
            refine zs_dup dX13_runTick_97 rfl ?_
            refine zs_get 0 dX13_runTick_98 zf_RX13_316 rfl (v := .int (nI (M.1 39))) rfl ?_
            refine zs_aload_n dX13_runTick_101 rfl rfl ?_
            refine zs_get 0 dX13_runTick_102 zf_RX13_45 rfl (v := .ref (e 26)) rfl ?_
            refine zs_iload_n dX13_runTick_105 rfl ?_
            refine zs_iald 4 dX13_runTick_106 rfl (vp_in_nI (by omega) (by omega)) ?_
            refine zs_as (y := nI ((M.2 26) k)) (by rw [nI_c (n := k) (by omega)]; rfl) ?_
            refine zs_iconst (v := nI 1) dX13_runTick_107 (by decide) ?_
            refine zs_iadd dX13_runTick_108 ?_
            refine zs_as (y := nI (((M.2 26) k) + 1)) (nI_add _ _) ?_
            refine zs_iconst (v := nI 2) dX13_runTick_109 (by decide) ?_
            refine zs_idiv dX13_runTick_110 (fun hz => by rw [show (0 : Int32) = nI 0 from rfl, nI_eq' (by omega) (by omega)] at hz; omega) ?_
            refine zs_as (y := nI ((((M.2 26) k) + 1) / 2)) (nI_div (by omega) (by omega) (by omega)) ?_
            refine zs_iadd dX13_runTick_111 ?_
            refine zs_as (y := nI ((M.1 39) + ((((M.2 26) k) + 1) / 2))) (nI_add _ _) ?_
            refine zs_put 0 dX13_runTick_112 zf_RX13_316 rfl (Nat.le_of_ble_eq_true rfl) (zPv_i _) ?_
            show zS _ _ _ _ _ _ [(mo, .inr (11, fMo e (mg g (un M.1 39 ((M.1 39) + ((((M.2 26) k) + 1) / 2)))) w)), ((e 14), .inl (0, 800, .inl nw)), ((e 24), .inl (0, 12, .inl (nF (M.2 24)))), ((e 25), .inl (0, 12, .inl (nF (un (M.2 25) k (((M.2 25) k) - 1))))), ((e 26), .inl (0, 12, .inl (nF (M.2 26)))), ((e 27), .inl (0, 12, .inl (nF (M.2 27)))), ((e 28), .inl (0, 360, .inl (nF (M.2 28)))), ((e 29), .inl (0, 12, .inl (nF (M.2 29)))), ((e 30), .inl (0, 12, .inl (nF (M.2 30)))), ((e 31), .inl (0, 30, .inl (nF (M.2 31)))), ((e 32), .inl (0, 12, .inl (nF (M.2 32))))]
            refine zs_aload_n dX13_runTick_115 rfl rfl ?_
            refine zs_get 0 dX13_runTick_116 zf_RX13_63 rfl (v := .ref (e 32)) rfl ?_
            refine zs_iload_n dX13_runTick_119 rfl ?_
            refine zs_iconst (v := nI 3) dX13_runTick_120 (by decide) ?_
            refine zs_iast 10 dX13_runTick_121 rfl (vp_in_nI (by omega) (by omega)) ?_
            rw [nI_c (n := k) (by omega), nF_u]
            show zS _ _ _ _ _ _ [(mo, .inr (11, fMo e (mg g (un M.1 39 ((M.1 39) + ((((M.2 26) k) + 1) / 2)))) w)), ((e 14), .inl (0, 800, .inl nw)), ((e 24), .inl (0, 12, .inl (nF (M.2 24)))), ((e 25), .inl (0, 12, .inl (nF (un (M.2 25) k (((M.2 25) k) - 1))))), ((e 26), .inl (0, 12, .inl (nF (M.2 26)))), ((e 27), .inl (0, 12, .inl (nF (M.2 27)))), ((e 28), .inl (0, 360, .inl (nF (M.2 28)))), ((e 29), .inl (0, 12, .inl (nF (M.2 29)))), ((e 30), .inl (0, 12, .inl (nF (M.2 30)))), ((e 31), .inl (0, 30, .inl (nF (M.2 31)))), ((e 32), .inl (0, 12, .inl (nF (un (M.2 32) k 3))))]
            refine zs_aload_n dX13_runTick_122 rfl rfl ?_
            refine zs_get 0 dX13_runTick_123 zf_RX13_42 rfl (v := .ref (e 25)) rfl ?_
            refine zs_iload_n dX13_runTick_126 rfl ?_
            refine zs_iload_n dX13_runTick_127 rfl ?_
            refine zs_iast 3 dX13_runTick_128 rfl (vp_in_nI (by omega) (by omega)) ?_
            rw [nI_c (n := k) (by omega), nF_u]
            show zS _ _ _ _ _ _ [(mo, .inr (11, fMo e (mg g (un M.1 39 ((M.1 39) + ((((M.2 26) k) + 1) / 2)))) w)), ((e 14), .inl (0, 800, .inl nw)), ((e 24), .inl (0, 12, .inl (nF (M.2 24)))), ((e 25), .inl (0, 12, .inl (nF (un (un (M.2 25) k (((M.2 25) k) - 1)) k (nUp (D.1 5) (D.2.2.2.2.1 ((M.2 24) k))))))), ((e 26), .inl (0, 12, .inl (nF (M.2 26)))), ((e 27), .inl (0, 12, .inl (nF (M.2 27)))), ((e 28), .inl (0, 360, .inl (nF (M.2 28)))), ((e 29), .inl (0, 12, .inl (nF (M.2 29)))), ((e 30), .inl (0, 12, .inl (nF (M.2 30)))), ((e 31), .inl (0, 30, .inl (nF (M.2 31)))), ((e 32), .inl (0, 12, .inl (nF (un (M.2 32) k 3))))]
            refine zs_goto (tgt := 139) dX13_runTick_129 (by decide) ?_
            refine zs_lv [1, 2] rfl ?_
            refine ur_139 mo e g w nw D (rA (rPl (D.1 7) (D.1 8) s0 k) k) (un M.1 39 (M.1 39 + (M.2 26 k + 1) / 2), uu (uu M.2 25 (un (un (M.2 25) k (M.2 25 k - 1)) k (nUp (D.1 5) (D.2.2.2.2.1 (M.2 24 k))))) 32 (un (M.2 32) k 3)) k (by omega) hR hD (by rw [rA, if_neg (show ¬ (rPl (D.1 7) (D.1 8) s0 k).2 3 k = 0 by omega), if_pos (show (rPl (D.1 7) (D.1 8) s0 k).2 3 k - 1 = 0 by omega)]; exact uR_f2 h hk1 (by omega)) (by rw [rA_m]; exact hk1) (fun M2 h2 => ?_)
            refine zs_iinc (v := (nI (k + 1))) (lv' := [(1, .int (nI (k + 1))), (0, .ref mo)]) dX13_runTick_194 rfl (nI_add _ 1) (Nat.le_of_ble_eq_true rfl) rfl ?_
            refine zs_goto (tgt := 2) dX13_runTick_197 (by decide) ?_
            refine zs_lv [1, 0] rfl ?_
            exact ih (k + 1) M2 (by omega) h2
        · have c_4 : ((M.2 32) k) = 1 := by have hc := c_4; rw [nI_eq' (by omega) (by omega)] at hc; exact hc
          refine zs_aload_n dX13_runTick_69 rfl rfl ?_
          refine zs_get 0 dX13_runTick_70 zf_RX13_63 rfl (v := .ref (e 32)) rfl ?_
          refine zs_iload_n dX13_runTick_73 rfl ?_
          refine zs_iconst (v := nI 2) dX13_runTick_74 (by decide) ?_
          refine zs_iast 10 dX13_runTick_75 rfl (vp_in_nI (by omega) (by omega)) ?_
          rw [nI_c (n := k) (by omega), nF_u]
          show zS _ _ _ _ _ _ [(mo, .inr (11, fMo e (mg g M.1) w)), ((e 14), .inl (0, 800, .inl nw)), ((e 24), .inl (0, 12, .inl (nF (M.2 24)))), ((e 25), .inl (0, 12, .inl (nF (un (M.2 25) k (((M.2 25) k) - 1))))), ((e 26), .inl (0, 12, .inl (nF (M.2 26)))), ((e 27), .inl (0, 12, .inl (nF (M.2 27)))), ((e 28), .inl (0, 360, .inl (nF (M.2 28)))), ((e 29), .inl (0, 12, .inl (nF (M.2 29)))), ((e 30), .inl (0, 12, .inl (nF (M.2 30)))), ((e 31), .inl (0, 30, .inl (nF (M.2 31)))), ((e 32), .inl (0, 12, .inl (nF (un (M.2 32) k 2))))]
          refine zs_aload_n dX13_runTick_76 rfl rfl ?_
          refine zs_get 0 dX13_runTick_77 zf_RX13_42 rfl (v := .ref (e 25)) rfl ?_
          refine zs_iload_n dX13_runTick_80 rfl ?_
          refine zs_iload_n dX13_runTick_81 rfl ?_
          refine zs_iast 3 dX13_runTick_82 rfl (vp_in_nI (by omega) (by omega)) ?_
          rw [nI_c (n := k) (by omega), nF_u]
          show zS _ _ _ _ _ _ [(mo, .inr (11, fMo e (mg g M.1) w)), ((e 14), .inl (0, 800, .inl nw)), ((e 24), .inl (0, 12, .inl (nF (M.2 24)))), ((e 25), .inl (0, 12, .inl (nF (un (un (M.2 25) k (((M.2 25) k) - 1)) k (nUp (D.1 5) (D.2.2.2.2.1 ((M.2 24) k))))))), ((e 26), .inl (0, 12, .inl (nF (M.2 26)))), ((e 27), .inl (0, 12, .inl (nF (M.2 27)))), ((e 28), .inl (0, 360, .inl (nF (M.2 28)))), ((e 29), .inl (0, 12, .inl (nF (M.2 29)))), ((e 30), .inl (0, 12, .inl (nF (M.2 30)))), ((e 31), .inl (0, 30, .inl (nF (M.2 31)))), ((e 32), .inl (0, 12, .inl (nF (un (M.2 32) k 2))))]
          refine zs_goto (tgt := 139) dX13_runTick_83 (by decide) ?_
          refine zs_lv [1, 2] rfl ?_
          refine ur_139 mo e g w nw D (rA (rPl (D.1 7) (D.1 8) s0 k) k) (M.1, uu (uu M.2 25 (un (un (M.2 25) k (M.2 25 k - 1)) k (nUp (D.1 5) (D.2.2.2.2.1 (M.2 24 k))))) 32 (un (M.2 32) k 2)) k (by omega) hR hD (by rw [rA, if_neg (show ¬ (rPl (D.1 7) (D.1 8) s0 k).2 3 k = 0 by omega), if_pos (show (rPl (D.1 7) (D.1 8) s0 k).2 3 k - 1 = 0 by omega)]; exact uR_f1 h hk1 (by omega)) (by rw [rA_m]; exact hk1) (fun M2 h2 => ?_)
          refine zs_iinc (v := (nI (k + 1))) (lv' := [(1, .int (nI (k + 1))), (0, .ref mo)]) dX13_runTick_194 rfl (nI_add _ 1) (Nat.le_of_ble_eq_true rfl) rfl ?_
          refine zs_goto (tgt := 2) dX13_runTick_197 (by decide) ?_
          refine zs_lv [1, 0] rfl ?_
          exact ih (k + 1) M2 (by omega) h2
set_option maxRecDepth 100000 in
theorem s_tRun (l : Launch) (dd : Nat) (mo : Nat) (e : Nat → Nat) (g : Nat → Int32) (w : Int64) (nw : Nat → Int32) (D : zYd) (s0 M : zRs) (hd : 3 ≤ dd) (hR : yR D nw) (hD : yI D) (h : uR D s0 M) : zSp l mX13_runTick dd 0 0 [.ref mo] [(mo, .inr (11, fMo e (mg g M.1) w)), ((e 14), .inl (0, 800, .inl nw)), ((e 24), .inl (0, 12, .inl (nF (M.2 24)))), ((e 25), .inl (0, 12, .inl (nF (M.2 25)))), ((e 26), .inl (0, 12, .inl (nF (M.2 26)))), ((e 27), .inl (0, 12, .inl (nF (M.2 27)))), ((e 28), .inl (0, 360, .inl (nF (M.2 28)))), ((e 29), .inl (0, 12, .inl (nF (M.2 29)))), ((e 30), .inl (0, 12, .inl (nF (M.2 30)))), ((e 31), .inl (0, 30, .inl (nF (M.2 31)))), ((e 32), .inl (0, 12, .inl (nF (M.2 32))))] (fun r K' => r = none ∧ ∃ M', uR D (rPl (D.1 7) (D.1 8) s0 (s0.1 1)) M' ∧ K' = kTm mo e g w nw M') := by
  refine zSp.of (by decide) (Nat.le_of_ble_eq_true rfl) (fun h0 => ?_)
  show zS _ 0 0 0 [(0, .ref mo)] [] [(mo, .inr (11, fMo e (mg g M.1) w)), ((e 14), .inl (0, 800, .inl nw)), ((e 24), .inl (0, 12, .inl (nF (M.2 24)))), ((e 25), .inl (0, 12, .inl (nF (M.2 25)))), ((e 26), .inl (0, 12, .inl (nF (M.2 26)))), ((e 27), .inl (0, 12, .inl (nF (M.2 27)))), ((e 28), .inl (0, 360, .inl (nF (M.2 28)))), ((e 29), .inl (0, 12, .inl (nF (M.2 29)))), ((e 30), .inl (0, 12, .inl (nF (M.2 30)))), ((e 31), .inl (0, 30, .inl (nF (M.2 31)))), ((e 32), .inl (0, 12, .inl (nF (M.2 32))))]
  refine zs_iconst (v := nI 0) dX13_runTick_0 (by decide) ?_
  refine zs_istore_n (lv' := [(1, .int (nI 0)), (0, .ref mo)]) dX13_runTick_1 (Nat.le_of_ble_eq_true rfl) rfl ?_
  refine zs_lv [1, 0] rfl ?_
  exact lp_uru mo e g w nw D s0 hd hR hD (fun r K1 h => h) (s0.1 1) 0 M (Nat.zero_add _) h
