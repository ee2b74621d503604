/-! ===== the reference: cost() ===== -/
theorem dX13_cost_0 : decode cX13_cost 0 = .ok (.aload_n 0, 1) := by decide +kernel
theorem dX13_cost_1 : decode cX13_cost 1 = .ok (.invokevirtual 232, 3) := by decide +kernel
theorem dX13_cost_4 : decode cX13_cost 4 = .ok (.aload_n 0, 1) := by decide +kernel
theorem dX13_cost_5 : decode cX13_cost 5 = .ok (.getfield 151, 3) := by decide +kernel
theorem dX13_cost_8 : decode cX13_cost 8 = .ok (.istore_n 3, 1) := by decide +kernel
theorem dX13_cost_9 : decode cX13_cost 9 = .ok (.iload_n 3, 1) := by decide +kernel
theorem dX13_cost_10 : decode cX13_cost 10 = .ok (.iconst 2, 1) := by decide +kernel
theorem dX13_cost_11 : decode cX13_cost 11 = .ok (.bipush 12, 2) := by decide +kernel
theorem dX13_cost_13 : decode cX13_cost 13 = .ok (.invokestatic 219, 3) := by decide +kernel
theorem dX13_cost_16 : decode cX13_cost 16 = .ok (.ifCond .eq 27, 3) := by decide +kernel
theorem dX13_cost_19 : decode cX13_cost 19 = .ok (.iload_n 1, 1) := by decide +kernel
theorem dX13_cost_20 : decode cX13_cost 20 = .ok (.iconst 0, 1) := by decide +kernel
theorem dX13_cost_21 : decode cX13_cost 21 = .ok (.bipush 60, 2) := by decide +kernel
theorem dX13_cost_23 : decode cX13_cost 23 = .ok (.invokestatic 219, 3) := by decide +kernel
theorem dX13_cost_26 : decode cX13_cost 26 = .ok (.ifCond .eq 17, 3) := by decide +kernel
theorem dX13_cost_29 : decode cX13_cost 29 = .ok (.iload_n 2, 1) := by decide +kernel
theorem dX13_cost_30 : decode cX13_cost 30 = .ok (.bipush 60, 2) := by decide +kernel
theorem dX13_cost_32 : decode cX13_cost 32 = .ok (.iload_n 1, 1) := by decide +kernel
theorem dX13_cost_33 : decode cX13_cost 33 = .ok (.imul, 1) := by decide +kernel
theorem dX13_cost_34 : decode cX13_cost 34 = .ok (.sipush 3600, 3) := by decide +kernel
theorem dX13_cost_37 : decode cX13_cost 37 = .ok (.invokestatic 219, 3) := by decide +kernel
theorem dX13_cost_40 : decode cX13_cost 40 = .ok (.ifCond .ne 8, 3) := by decide +kernel
theorem dX13_cost_43 : decode cX13_cost 43 = .ok (.aload_n 0, 1) := by decide +kernel
theorem dX13_cost_44 : decode cX13_cost 44 = .ok (.invokevirtual 291, 3) := by decide +kernel
theorem dX13_cost_47 : decode cX13_cost 47 = .ok (.ireturn, 1) := by decide +kernel
theorem dX13_cost_48 : decode cX13_cost 48 = .ok (.iconst 0, 1) := by decide +kernel
theorem dX13_cost_49 : decode cX13_cost 49 = .ok (.istore 4, 2) := by decide +kernel
theorem dX13_cost_51 : decode cX13_cost 51 = .ok (.iconst 0, 1) := by decide +kernel
theorem dX13_cost_52 : decode cX13_cost 52 = .ok (.istore 5, 2) := by decide +kernel
theorem dX13_cost_54 : decode cX13_cost 54 = .ok (.iload 5, 2) := by decide +kernel
theorem dX13_cost_56 : decode cX13_cost 56 = .ok (.iload_n 3, 1) := by decide +kernel
theorem dX13_cost_57 : decode cX13_cost 57 = .ok (.if_icmp .ge 71, 3) := by decide +kernel
theorem dX13_cost_60 : decode cX13_cost 60 = .ok (.aload_n 0, 1) := by decide +kernel
theorem dX13_cost_61 : decode cX13_cost 61 = .ok (.getfield 7, 3) := by decide +kernel
theorem dX13_cost_64 : decode cX13_cost 64 = .ok (.iload 5, 2) := by decide +kernel
theorem dX13_cost_66 : decode cX13_cost 66 = .ok (.iaload, 1) := by decide +kernel
theorem dX13_cost_67 : decode cX13_cost 67 = .ok (.aload_n 0, 1) := by decide +kernel
theorem dX13_cost_68 : decode cX13_cost 68 = .ok (.invokevirtual 288, 3) := by decide +kernel
theorem dX13_cost_71 : decode cX13_cost 71 = .ok (.if_icmp .ge 18, 3) := by decide +kernel
theorem dX13_cost_74 : decode cX13_cost 74 = .ok (.iload 4, 2) := by decide +kernel
theorem dX13_cost_76 : decode cX13_cost 76 = .ok (.aload_n 0, 1) := by decide +kernel
theorem dX13_cost_77 : decode cX13_cost 77 = .ok (.getfield 7, 3) := by decide +kernel
theorem dX13_cost_80 : decode cX13_cost 80 = .ok (.iload 5, 2) := by decide +kernel
theorem dX13_cost_82 : decode cX13_cost 82 = .ok (.iaload, 1) := by decide +kernel
theorem dX13_cost_83 : decode cX13_cost 83 = .ok (.invokestatic 258, 3) := by decide +kernel
theorem dX13_cost_86 : decode cX13_cost 86 = .ok (.ifCond .eq 8, 3) := by decide +kernel
theorem dX13_cost_89 : decode cX13_cost 89 = .ok (.aload_n 0, 1) := by decide +kernel
theorem dX13_cost_90 : decode cX13_cost 90 = .ok (.invokevirtual 291, 3) := by decide +kernel
theorem dX13_cost_93 : decode cX13_cost 93 = .ok (.ireturn, 1) := by decide +kernel
theorem dX13_cost_94 : decode cX13_cost 94 = .ok (.iload 4, 2) := by decide +kernel
theorem dX13_cost_96 : decode cX13_cost 96 = .ok (.iconst 1, 1) := by decide +kernel
theorem dX13_cost_97 : decode cX13_cost 97 = .ok (.aload_n 0, 1) := by decide +kernel
theorem dX13_cost_98 : decode cX13_cost 98 = .ok (.getfield 7, 3) := by decide +kernel
theorem dX13_cost_101 : decode cX13_cost 101 = .ok (.iload 5, 2) := by decide +kernel
theorem dX13_cost_103 : decode cX13_cost 103 = .ok (.iaload, 1) := by decide +kernel
theorem dX13_cost_104 : decode cX13_cost 104 = .ok (.ishl, 1) := by decide +kernel
theorem dX13_cost_105 : decode cX13_cost 105 = .ok (.ior, 1) := by decide +kernel
theorem dX13_cost_106 : decode cX13_cost 106 = .ok (.istore 4, 2) := by decide +kernel
theorem dX13_cost_108 : decode cX13_cost 108 = .ok (.aload_n 0, 1) := by decide +kernel
theorem dX13_cost_109 : decode cX13_cost 109 = .ok (.getfield 39, 3) := by decide +kernel
theorem dX13_cost_112 : decode cX13_cost 112 = .ok (.iload 5, 2) := by decide +kernel
theorem dX13_cost_114 : decode cX13_cost 114 = .ok (.aload_n 0, 1) := by decide +kernel
theorem dX13_cost_115 : decode cX13_cost 115 = .ok (.getfield 7, 3) := by decide +kernel
theorem dX13_cost_118 : decode cX13_cost 118 = .ok (.iload 5, 2) := by decide +kernel
theorem dX13_cost_120 : decode cX13_cost 120 = .ok (.iaload, 1) := by decide +kernel
theorem dX13_cost_121 : decode cX13_cost 121 = .ok (.iastore, 1) := by decide +kernel
theorem dX13_cost_122 : decode cX13_cost 122 = .ok (.iinc 5 1, 3) := by decide +kernel
theorem dX13_cost_125 : decode cX13_cost 125 = .ok (.goto (-71), 3) := by decide +kernel
theorem dX13_cost_128 : decode cX13_cost 128 = .ok (.aload_n 0, 1) := by decide +kernel
theorem dX13_cost_129 : decode cX13_cost 129 = .ok (.iconst 0, 1) := by decide +kernel
theorem dX13_cost_130 : decode cX13_cost 130 = .ok (.putfield 148, 3) := by decide +kernel
theorem dX13_cost_133 : decode cX13_cost 133 = .ok (.aload_n 0, 1) := by decide +kernel
theorem dX13_cost_134 : decode cX13_cost 134 = .ok (.invokevirtual 235, 3) := by decide +kernel
theorem dX13_cost_137 : decode cX13_cost 137 = .ok (.pop, 1) := by decide +kernel
theorem dX13_cost_138 : decode cX13_cost 138 = .ok (.aload_n 0, 1) := by decide +kernel
theorem dX13_cost_139 : decode cX13_cost 139 = .ok (.iconst 1, 1) := by decide +kernel
theorem dX13_cost_140 : decode cX13_cost 140 = .ok (.iload_n 3, 1) := by decide +kernel
theorem dX13_cost_141 : decode cX13_cost 141 = .ok (.aload_n 0, 1) := by decide +kernel
theorem dX13_cost_142 : decode cX13_cost 142 = .ok (.getfield 13, 3) := by decide +kernel
theorem dX13_cost_145 : decode cX13_cost 145 = .ok (.iconst 5, 1) := by decide +kernel
theorem dX13_cost_146 : decode cX13_cost 146 = .ok (.iaload, 1) := by decide +kernel
theorem dX13_cost_147 : decode cX13_cost 147 = .ok (.iload_n 2, 1) := by decide +kernel
theorem dX13_cost_148 : decode cX13_cost 148 = .ok (.invokevirtual 376, 3) := by decide +kernel
theorem dX13_cost_151 : decode cX13_cost 151 = .ok (.istore 5, 2) := by decide +kernel
theorem dX13_cost_153 : decode cX13_cost 153 = .ok (.aload_n 0, 1) := by decide +kernel
theorem dX13_cost_154 : decode cX13_cost 154 = .ok (.iconst 2, 1) := by decide +kernel
theorem dX13_cost_155 : decode cX13_cost 155 = .ok (.iload_n 3, 1) := by decide +kernel
theorem dX13_cost_156 : decode cX13_cost 156 = .ok (.aload_n 0, 1) := by decide +kernel
theorem dX13_cost_157 : decode cX13_cost 157 = .ok (.getfield 13, 3) := by decide +kernel
theorem dX13_cost_160 : decode cX13_cost 160 = .ok (.iconst 5, 1) := by decide +kernel
theorem dX13_cost_161 : decode cX13_cost 161 = .ok (.iaload, 1) := by decide +kernel
theorem dX13_cost_162 : decode cX13_cost 162 = .ok (.bipush 60, 2) := by decide +kernel
theorem dX13_cost_164 : decode cX13_cost 164 = .ok (.iload_n 1, 1) := by decide +kernel
theorem dX13_cost_165 : decode cX13_cost 165 = .ok (.imul, 1) := by decide +kernel
theorem dX13_cost_166 : decode cX13_cost 166 = .ok (.invokevirtual 376, 3) := by decide +kernel
theorem dX13_cost_169 : decode cX13_cost 169 = .ok (.istore 6, 2) := by decide +kernel
theorem dX13_cost_171 : decode cX13_cost 171 = .ok (.iload 5, 2) := by decide +kernel
theorem dX13_cost_173 : decode cX13_cost 173 = .ok (.iload 6, 2) := by decide +kernel
theorem dX13_cost_175 : decode cX13_cost 175 = .ok (.isub, 1) := by decide +kernel
theorem dX13_cost_176 : decode cX13_cost 176 = .ok (.aload_n 0, 1) := by decide +kernel
theorem dX13_cost_177 : decode cX13_cost 177 = .ok (.iconst 1, 1) := by decide +kernel
theorem dX13_cost_178 : decode cX13_cost 178 = .ok (.iload_n 3, 1) := by decide +kernel
theorem dX13_cost_179 : decode cX13_cost 179 = .ok (.aload_n 0, 1) := by decide +kernel
theorem dX13_cost_180 : decode cX13_cost 180 = .ok (.getfield 13, 3) := by decide +kernel
theorem dX13_cost_183 : decode cX13_cost 183 = .ok (.iconst 5, 1) := by decide +kernel
theorem dX13_cost_184 : decode cX13_cost 184 = .ok (.iaload, 1) := by decide +kernel
theorem dX13_cost_185 : decode cX13_cost 185 = .ok (.aload_n 0, 1) := by decide +kernel
theorem dX13_cost_186 : decode cX13_cost 186 = .ok (.getfield 325, 3) := by decide +kernel
theorem dX13_cost_189 : decode cX13_cost 189 = .ok (.isub, 1) := by decide +kernel
theorem dX13_cost_190 : decode cX13_cost 190 = .ok (.iload_n 2, 1) := by decide +kernel
theorem dX13_cost_191 : decode cX13_cost 191 = .ok (.bipush 60, 2) := by decide +kernel
theorem dX13_cost_193 : decode cX13_cost 193 = .ok (.iload_n 1, 1) := by decide +kernel
theorem dX13_cost_194 : decode cX13_cost 194 = .ok (.imul, 1) := by decide +kernel
theorem dX13_cost_195 : decode cX13_cost 195 = .ok (.isub, 1) := by decide +kernel
theorem dX13_cost_196 : decode cX13_cost 196 = .ok (.invokevirtual 376, 3) := by decide +kernel
theorem dX13_cost_199 : decode cX13_cost 199 = .ok (.isub, 1) := by decide +kernel
theorem dX13_cost_200 : decode cX13_cost 200 = .ok (.ireturn, 1) := by decide +kernel
set_option maxRecDepth 100000 in
theorem lp_mco {l : Launch} {dd : Nat} {Po : zPo} {K0 : zK} {h0 : List va_E} {Xo : zK → Prop} {Gc : zG → Prop} (mo : Nat) (e : Nat → Nat) (g : Nat → Int32) (w : Int64) (nw : Nat → Int32) (D : zYd) (M : zRs) (bt : Nat → Nat) (n : Nat) (x1 x2 : Int32) (hd : 1 ≤ dd) (hR : yR D nw) (hD : yI D) (hbt : ∀ j, bt j < 256) (hn : 2 ≤ n ∧ n ≤ 12) (hP : ∀ r K', (¬ pTdP bt n (D.1 0) 2 12 ∧ r = some (.int 0) ∧ ∃ M', K' = kTm mo e (upd g 0 (nI 1)) w nw M' ++ [((e 1), .inl (0, 740, .inl (nF bt)))]) → Po r K') (hk : pTdP bt n (D.1 0) 2 12 → zS (l, mX13_cost, dd, Po, K0, h0, Xo, Gc) 0 0 128 [(0, .ref mo), (1, .int x1), (2, .int x2), (3, .int (nI n))] [] [(mo, .inr (11, fMo e (mg g M.1) w)), ((e 14), .inl (0, 800, .inl nw)), ((e 24), .inl (0, 12, .inl (nF (nCl bt (M.2 24) n)))), ((e 25), .inl (0, 12, .inl (nF (M.2 25)))), ((e 26), .inl (0, 12, .inl (nF (M.2 26)))), ((e 27), .inl (0, 12, .inl (nF (M.2 27)))), ((e 28), .inl (0, 360, .inl (nF (M.2 28)))), ((e 29), .inl (0, 12, .inl (nF (M.2 29)))), ((e 30), .inl (0, 12, .inl (nF (M.2 30)))), ((e 31), .inl (0, 30, .inl (nF (M.2 31)))), ((e 32), .inl (0, 12, .inl (nF (M.2 32)))), ((e 1), .inl (0, 740, .inl (nF bt)))]) : ∀ (q k m : Nat), k + q = n → m < 4096 → (∀ j, j < 12 → m.testBit j = tSt bt k j) → (∀ i, i < k → bt i < D.1 0) → (∀ i, i < k → ∀ j, j < i → bt j ≠ bt i) → zS (l, mX13_cost, dd, Po, K0, h0, Xo, Gc) 0 0 54 [(0, .ref mo), (1, .int x1), (2, .int x2), (3, .int (nI n)), (4, .int (nI m)), (5, .int (nI k))] [] [(mo, .inr (11, fMo e (mg g M.1) w)), ((e 14), .inl (0, 800, .inl nw)), ((e 24), .inl (0, 12, .inl (nF (nCl bt (M.2 24) k)))), ((e 25), .inl (0, 12, .inl (nF (M.2 25)))), ((e 26), .inl (0, 12, .inl (nF (M.2 26)))), ((e 27), .inl (0, 12, .inl (nF (M.2 27)))), ((e 28), .inl (0, 360, .inl (nF (M.2 28)))), ((e 29), .inl (0, 12, .inl (nF (M.2 29)))), ((e 30), .inl (0, 12, .inl (nF (M.2 30)))), ((e 31), .inl (0, 30, .inl (nF (M.2 31)))), ((e 32), .inl (0, 12, .inl (nF (M.2 32)))), ((e 1), .inl (0, 740, .inl (nF bt)))] := by
  have hD0 := hD.1
  intro q
  induction q with
  | zero =>
    intro k m hk1 hm hbits hmen hun
    refine zs_iload dX13_cost_54 rfl ?_
    refine zs_iload_n dX13_cost_56 rfl ?_
    refine zs_icmp_ge (tgt := 128) dX13_cost_57 (by decide) (fun c_1 => ?_) (fun c_1 => (c_1 (by rw [show k = n by omega]; exact Int32.le_refl _) : False).elim)
    rw [show k = n by omega]
    refine zs_lv [0, 1, 2, 3] rfl ?_
    exact hk ⟨hn.1, hn.2, fun i hi => hmen i (by omega), fun i hi => hun i (by omega)⟩
  | succ q ih =>
    intro k m hk1 hm hbits hmen hun
    refine zs_iload dX13_cost_54 rfl ?_
    refine zs_iload_n dX13_cost_56 rfl ?_
    refine zs_icmp_ge (tgt := 128) dX13_cost_57 (by decide) (fun c_1 => (nI_ge (show k < n by omega) (by omega) c_1 : False).elim) (fun c_1 => ?_)
    refine zs_aload_n dX13_cost_60 rfl rfl ?_
    refine zs_get 0 dX13_cost_61 zf_RX13_7 rfl (v := .ref (e 1)) rfl ?_
    refine zs_iload dX13_cost_64 rfl ?_
    refine zs_iald 11 dX13_cost_66 rfl (vp_in_nI (by omega) (by omega)) ?_
    refine zs_as (y := nI (bt k)) (by rw [nI_c (n := k) (by omega)]; rfl) ?_
    refine zs_aload_n dX13_cost_67 rfl rfl ?_
    refine zs_callV (M := mX13_men) (As := []) (st := [.int (nI (bt k))]) (Kc := [(mo, .inr (11, fMo e (mg g M.1) w)), ((e 14), .inl (0, 800, .inl nw))]) (Kr := [((e 24), .inl (0, 12, .inl (nF (nCl bt (M.2 24) k)))), ((e 25), .inl (0, 12, .inl (nF (M.2 25)))), ((e 26), .inl (0, 12, .inl (nF (M.2 26)))), ((e 27), .inl (0, 12, .inl (nF (M.2 27)))), ((e 28), .inl (0, 360, .inl (nF (M.2 28)))), ((e 29), .inl (0, 12, .inl (nF (M.2 29)))), ((e 30), .inl (0, 12, .inl (nF (M.2 30)))), ((e 31), .inl (0, 30, .inl (nF (M.2 31)))), ((e 32), .inl (0, 12, .inl (nF (M.2 32)))), ((e 1), .inl (0, 740, .inl (nF bt)))]) [0, 1] [2, 3, 4, 5, 6, 7, 8, 9, 10, 11] 0 dX13_cost_68 zl_RX13_288 kX13_men rfl rfl rfl rfl rfl (by decide) rfl rfl (show dd - 1 + 1 ≤ dd by omega) (Nat.zero_le _) (Nat.zero_le _) (Nat.le_of_ble_eq_true rfl) (s_mMen l (dd - 1) mo e (mg g M.1) w nw D hR) (fun r K1 hr => ?_)
    obtain ⟨rfl, rfl⟩ := hr
    refine zs_K (K' := [(mo, .inr (11, fMo e (mg g M.1) w)), ((e 14), .inl (0, 800, .inl nw)), ((e 24), .inl (0, 12, .inl (nF (nCl bt (M.2 24) k)))), ((e 25), .inl (0, 12, .inl (nF (M.2 25)))), ((e 26), .inl (0, 12, .inl (nF (M.2 26)))), ((e 27), .inl (0, 12, .inl (nF (M.2 27)))), ((e 28), .inl (0, 360, .inl (nF (M.2 28)))), ((e 29), .inl (0, 12, .inl (nF (M.2 29)))), ((e 30), .inl (0, 12, .inl (nF (M.2 30)))), ((e 31), .inl (0, 30, .inl (nF (M.2 31)))), ((e 32), .inl (0, 12, .inl (nF (M.2 32)))), ((e 1), .inl (0, 740, .inl (nF bt)))]) [10, 11, 0, 1, 2, 3, 4, 5, 6, 7, 8, 9] rfl (by decide) ?_
    have hbk := hbt k
    refine zs_icmp_ge (tgt := 89) dX13_cost_71 (by decide) (fun c_2 => ?_) (fun c_2 => ?_)
    · have c_2 : (D.1 0) ≤ (bt k) := by have hc := c_2; rw [nI_le' (by omega) (by omega)] at hc; exact hc
      refine zs_aload_n dX13_cost_89 rfl rfl ?_
      refine zs_callV (M := mX13_refuse) (As := []) (st := []) (Kc := [(mo, .inr (11, fMo e (mg g M.1) w))]) (Kr := [((e 14), .inl (0, 800, .inl nw)), ((e 24), .inl (0, 12, .inl (nF (nCl bt (M.2 24) k)))), ((e 25), .inl (0, 12, .inl (nF (M.2 25)))), ((e 26), .inl (0, 12, .inl (nF (M.2 26)))), ((e 27), .inl (0, 12, .inl (nF (M.2 27)))), ((e 28), .inl (0, 360, .inl (nF (M.2 28)))), ((e 29), .inl (0, 12, .inl (nF (M.2 29)))), ((e 30), .inl (0, 12, .inl (nF (M.2 30)))), ((e 31), .inl (0, 30, .inl (nF (M.2 31)))), ((e 32), .inl (0, 12, .inl (nF (M.2 32)))), ((e 1), .inl (0, 740, .inl (nF bt)))]) [0] [1, 2, 3, 4, 5, 6, 7, 8, 9, 10, 11] 0 dX13_cost_90 zl_RX13_291 kX13_refuse rfl rfl rfl rfl rfl (by decide) rfl rfl (show dd - 1 + 1 ≤ dd by omega) (Nat.zero_le _) (Nat.zero_le _) (Nat.le_of_ble_eq_true rfl) (s_mRefuse l (dd - 1) mo e (mg g M.1) w) (fun r K1 hr => ?_)
      obtain ⟨rfl, rfl⟩ := hr
      refine zs_K (K' := [(mo, .inr (11, fMo e (mg (upd g 0 (nI 1)) M.1) w)), ((e 14), .inl (0, 800, .inl nw)), ((e 24), .inl (0, 12, .inl (nF (nCl bt (M.2 24) k)))), ((e 25), .inl (0, 12, .inl (nF (M.2 25)))), ((e 26), .inl (0, 12, .inl (nF (M.2 26)))), ((e 27), .inl (0, 12, .inl (nF (M.2 27)))), ((e 28), .inl (0, 360, .inl (nF (M.2 28)))), ((e 29), .inl (0, 12, .inl (nF (M.2 29)))), ((e 30), .inl (0, 12, .inl (nF (M.2 30)))), ((e 31), .inl (0, 30, .inl (nF (M.2 31)))), ((e 32), .inl (0, 12, .inl (nF (M.2 32)))), ((e 1), .inl (0, 740, .inl (nF bt)))]) [11, 0, 1, 2, 3, 4, 5, 6, 7, 8, 9, 10] rfl (by decide) ?_
      exact zs_iret dX13_cost_93 rfl (hP _ _ ⟨(fun h => absurd (h.2.2.1 k (by omega)) (by omega)), rfl, (M.1, uu M.2 24 (nCl bt (M.2 24) k)), rfl⟩)
    · have c_2 : ¬ ((D.1 0) ≤ (bt k)) := by have hc := c_2; rw [nI_le' (by omega) (by omega)] at hc; exact hc
      refine zs_iload dX13_cost_74 rfl ?_
      refine zs_aload_n dX13_cost_76 rfl rfl ?_
      refine zs_get 0 dX13_cost_77 zf_RX13_7 rfl (v := .ref (e 1)) rfl ?_
      refine zs_iload dX13_cost_80 rfl ?_
      refine zs_iald 11 dX13_cost_82 rfl (vp_in_nI (by omega) (by omega)) ?_
      refine zs_as (y := nI (bt k)) (by rw [nI_c (n := k) (by omega)]; rfl) ?_
      refine zs_callS (M := mX13_has) (As := [.int (nI m), .int (nI (bt k))]) (st := []) (Kc := []) (Kr := [(mo, .inr (11, fMo e (mg g M.1) w)), ((e 14), .inl (0, 800, .inl nw)), ((e 24), .inl (0, 12, .inl (nF (nCl bt (M.2 24) k)))), ((e 25), .inl (0, 12, .inl (nF (M.2 25)))), ((e 26), .inl (0, 12, .inl (nF (M.2 26)))), ((e 27), .inl (0, 12, .inl (nF (M.2 27)))), ((e 28), .inl (0, 360, .inl (nF (M.2 28)))), ((e 29), .inl (0, 12, .inl (nF (M.2 29)))), ((e 30), .inl (0, 12, .inl (nF (M.2 30)))), ((e 31), .inl (0, 30, .inl (nF (M.2 31)))), ((e 32), .inl (0, 12, .inl (nF (M.2 32)))), ((e 1), .inl (0, 740, .inl (nF bt)))]) [] [0, 1, 2, 3, 4, 5, 6, 7, 8, 9, 10, 11] dX13_cost_83 zl_RX13_258 kX13_has rfl rfl rfl rfl rfl (by decide) (show dd - 1 + 1 ≤ dd by omega) (Nat.zero_le _) (Nat.zero_le _) (Nat.le_of_ble_eq_true rfl) (s_mHas l (dd - 1) (nI m) (nI (bt k))) (fun r K1 hr => ?_)
      obtain ⟨rfl, rfl⟩ := hr
      refine zs_K (K' := [(mo, .inr (11, fMo e (mg g M.1) w)), ((e 14), .inl (0, 800, .inl nw)), ((e 24), .inl (0, 12, .inl (nF (nCl bt (M.2 24) k)))), ((e 25), .inl (0, 12, .inl (nF (M.2 25)))), ((e 26), .inl (0, 12, .inl (nF (M.2 26)))), ((e 27), .inl (0, 12, .inl (nF (M.2 27)))), ((e 28), .inl (0, 360, .inl (nF (M.2 28)))), ((e 29), .inl (0, 12, .inl (nF (M.2 29)))), ((e 30), .inl (0, 12, .inl (nF (M.2 30)))), ((e 31), .inl (0, 30, .inl (nF (M.2 31)))), ((e 32), .inl (0, 12, .inl (nF (M.2 32)))), ((e 1), .inl (0, 740, .inl (nF bt)))]) [0, 1, 2, 3, 4, 5, 6, 7, 8, 9, 10, 11] rfl (by decide) ?_
      refine zs_as (y := bI (m.testBit (bt k))) (bt_h hm (by omega)) ?_
      refine zs_if_eq (tgt := 94) dX13_cost_86 (by decide) (fun c_3 => ?_) (fun c_3 => ?_)
      · have hnb := bI_f c_3
        refine zs_iload dX13_cost_94 rfl ?_
        refine zs_iconst (v := nI 1) dX13_cost_96 (by decide) ?_
        refine zs_aload_n dX13_cost_97 rfl rfl ?_
        refine zs_get 0 dX13_cost_98 zf_RX13_7 rfl (v := .ref (e 1)) rfl ?_
        refine zs_iload dX13_cost_101 rfl ?_
        refine zs_iald 11 dX13_cost_103 rfl (vp_in_nI (by omega) (by omega)) ?_
        refine zs_as (y := nI (bt k)) (by rw [nI_c (n := k) (by omega)]; rfl) ?_
        refine zs_ishl dX13_cost_104 ?_
        refine zs_ior dX13_cost_105 ?_
        refine zs_as (y := nI (m ||| 2 ^ bt k)) (bt_s hm (by omega)) ?_
        refine zs_istore (lv' := [(4, .int (nI (m ||| 2 ^ bt k))), (0, .ref mo), (1, .int x1), (2, .int x2), (3, .int (nI n)), (5, .int (nI k))]) dX13_cost_106 (Nat.le_of_ble_eq_true rfl) rfl ?_
        refine zs_aload_n dX13_cost_108 rfl rfl ?_
        refine zs_get 0 dX13_cost_109 zf_RX13_39 rfl (v := .ref (e 24)) rfl ?_
        refine zs_iload dX13_cost_112 rfl ?_
        refine zs_aload_n dX13_cost_114 rfl rfl ?_
        refine zs_get 0 dX13_cost_115 zf_RX13_7 rfl (v := .ref (e 1)) rfl ?_
        refine zs_iload dX13_cost_118 rfl ?_
        refine zs_iald 11 dX13_cost_120 rfl (vp_in_nI (by omega) (by omega)) ?_
        refine zs_as (y := nI (bt k)) (by rw [nI_c (n := k) (by omega)]; rfl) ?_
        refine zs_iast 2 dX13_cost_121 rfl (vp_in_nI (by omega) (by omega)) ?_
        rw [nI_c (n := k) (by omega), nF_u]
        show zS _ _ _ _ _ _ [(mo, .inr (11, fMo e (mg g M.1) w)), ((e 14), .inl (0, 800, .inl nw)), ((e 24), .inl (0, 12, .inl (nF (un (nCl bt (M.2 24) k) k (bt k))))), ((e 25), .inl (0, 12, .inl (nF (M.2 25)))), ((e 26), .inl (0, 12, .inl (nF (M.2 26)))), ((e 27), .inl (0, 12, .inl (nF (M.2 27)))), ((e 28), .inl (0, 360, .inl (nF (M.2 28)))), ((e 29), .inl (0, 12, .inl (nF (M.2 29)))), ((e 30), .inl (0, 12, .inl (nF (M.2 30)))), ((e 31), .inl (0, 30, .inl (nF (M.2 31)))), ((e 32), .inl (0, 12, .inl (nF (M.2 32)))), ((e 1), .inl (0, 740, .inl (nF bt)))]
        refine zs_iinc (v := (nI (k + 1))) (lv' := [(5, .int (nI (k + 1))), (4, .int (nI (m ||| 2 ^ bt k))), (0, .ref mo), (1, .int x1), (2, .int x2), (3, .int (nI n))]) dX13_cost_122 rfl (nI_add _ 1) (Nat.le_of_ble_eq_true rfl) rfl ?_
        refine zs_goto (tgt := 54) dX13_cost_125 (by decide) ?_
        refine zs_lv [2, 3, 4, 5, 1, 0] rfl ?_
        rw [nCl_u (new := bt) (old := M.2 24) (k := k) rfl]
        exact ih (k + 1) (m ||| 2 ^ bt k) (by omega) (bt_l hm (by omega)) (fun j hj => by rw [bt_x, hbits j hj, tSt_s]) (fun i hi => (Nat.lt_or_eq_of_le (Nat.le_of_lt_succ hi)).elim (hmen i) (fun e => e ▸ (by omega))) (fun i hi j hj => (Nat.lt_or_eq_of_le (Nat.le_of_lt_succ hi)).elim (fun q => hun i q j hj) (fun e => by
          subst e
          intro q
          have h1 : tSt bt i (bt i) = true := decide_eq_true ⟨j, hj, q⟩
          rw [← hbits (bt i) (by omega), hnb] at h1
          exact absurd h1 (by decide)))
      · have hyb := bI_t c_3
        refine zs_aload_n dX13_cost_89 rfl rfl ?_
        refine zs_callV (M := mX13_refuse) (As := []) (st := []) (Kc := [(mo, .inr (11, fMo e (mg g M.1) w))]) (Kr := [((e 14), .inl (0, 800, .inl nw)), ((e 24), .inl (0, 12, .inl (nF (nCl bt (M.2 24) k)))), ((e 25), .inl (0, 12, .inl (nF (M.2 25)))), ((e 26), .inl (0, 12, .inl (nF (M.2 26)))), ((e 27), .inl (0, 12, .inl (nF (M.2 27)))), ((e 28), .inl (0, 360, .inl (nF (M.2 28)))), ((e 29), .inl (0, 12, .inl (nF (M.2 29)))), ((e 30), .inl (0, 12, .inl (nF (M.2 30)))), ((e 31), .inl (0, 30, .inl (nF (M.2 31)))), ((e 32), .inl (0, 12, .inl (nF (M.2 32)))), ((e 1), .inl (0, 740, .inl (nF bt)))]) [0] [1, 2, 3, 4, 5, 6, 7, 8, 9, 10, 11] 0 dX13_cost_90 zl_RX13_291 kX13_refuse rfl rfl rfl rfl rfl (by decide) rfl rfl (show dd - 1 + 1 ≤ dd by omega) (Nat.zero_le _) (Nat.zero_le _) (Nat.le_of_ble_eq_true rfl) (s_mRefuse l (dd - 1) mo e (mg g M.1) w) (fun r K1 hr => ?_)
        obtain ⟨rfl, rfl⟩ := hr
        refine zs_K (K' := [(mo, .inr (11, fMo e (mg (upd g 0 (nI 1)) M.1) w)), ((e 14), .inl (0, 800, .inl nw)), ((e 24), .inl (0, 12, .inl (nF (nCl bt (M.2 24) k)))), ((e 25), .inl (0, 12, .inl (nF (M.2 25)))), ((e 26), .inl (0, 12, .inl (nF (M.2 26)))), ((e 27), .inl (0, 12, .inl (nF (M.2 27)))), ((e 28), .inl (0, 360, .inl (nF (M.2 28)))), ((e 29), .inl (0, 12, .inl (nF (M.2 29)))), ((e 30), .inl (0, 12, .inl (nF (M.2 30)))), ((e 31), .inl (0, 30, .inl (nF (M.2 31)))), ((e 32), .inl (0, 12, .inl (nF (M.2 32)))), ((e 1), .inl (0, 740, .inl (nF bt)))]) [11, 0, 1, 2, 3, 4, 5, 6, 7, 8, 9, 10] rfl (by decide) ?_
        exact zs_iret dX13_cost_93 rfl (hP _ _ ⟨(fun h => by have h1 := hyb; rw [hbits (bt k) (by omega)] at h1; obtain ⟨j, hj, e⟩ := of_decide_eq_true h1; exact h.2.2.2 k (by omega) j hj e), rfl, (M.1, uu M.2 24 (nCl bt (M.2 24) k)), rfl⟩)
/-- the men of a team in their places -/
abbrev tFn (f : Nat → Nat) (n : Nat) : Nat → Nat := fun j => if j < n then f j else 12
theorem tFn_I {D : zYd} {f : Nat → Nat} {n : Nat} (h : yI D) (hf : ∀ p, p < n → f p < D.1 0) : yI (yT D (tFn f n)) := yT_I h (fun j => by
  show (if j < n then f j else 12) ≤ 12
  have := h.1
  by_cases q : j < n
  · rw [if_pos q]; have := hf j q; omega
  · rw [if_neg q]; decide)
theorem tFn_T {D : zYd} {M : zRs} {f : Nat → Nat} {n : Nat} (h : ∀ p, p < n → M.2 24 p = f p) : tT (yT D (tFn f n)) M := fun p _ h2 => by
  have h2 : (if p < n then f p else 12) < 12 := h2
  show M.2 24 p = if p < n then f p else 12
  by_cases q : p < n
  · rw [if_pos q]; exact h p q
  · rw [if_neg q] at h2; exact absurd h2 (by decide)
theorem tFn_b {D : zYd} {M : zRs} {f : Nat → Nat} {n : Nat} (hD : yI D) (hn : n ≤ 12) (hf : ∀ p, p < n → f p < D.1 0) (h : tT (yT D (tFn f n)) M) : ∀ p, p < n → M.2 24 p = f p := fun p hp => by
  have e : tFn f n p = f p := if_pos hp
  have h0 := hD.1
  have h3 := hf p hp
  have h1 := h p (by omega) (show tFn f n p < 12 by rw [e]; omega)
  exact h1.trans e
set_option maxRecDepth 100000 in
theorem s_mCost (l : Launch) (dd : Nat) (mo : Nat) (e : Nat → Nat) (g : Nat → Int32) (w : Int64) (nw : Nat → Int32) (D : zYd) (M : zRs) (bt : Nat → Nat) (n : Nat) (f : Nat → Nat) (ro ru : zRs) (x1 x2 : Int32) (hd : 8 ≤ dd) (hR : yR D (mLay g nw)) (hD : yI D) (hb : g 22 = 0 ∨ g 22 = 1) (h2 : g 2 = nI n) (hn : n ≤ 740) (hbt : ∀ j, bt j < 256) (hW : cW ro) (hI : rI ru) (hf : ∀ p, p < n → f p = bt p) : zSp l mX13_cost dd 0 0 [.ref mo, .int x1, .int x2] [(mo, .inr (11, fMo e (mg g M.1) w)), ((e 14), .inl (0, 800, .inl nw)), ((e 24), .inl (0, 12, .inl (nF (M.2 24)))), ((e 25), .inl (0, 12, .inl (nF (M.2 25)))), ((e 26), .inl (0, 12, .inl (nF (M.2 26)))), ((e 27), .inl (0, 12, .inl (nF (M.2 27)))), ((e 28), .inl (0, 360, .inl (nF (M.2 28)))), ((e 29), .inl (0, 12, .inl (nF (M.2 29)))), ((e 30), .inl (0, 12, .inl (nF (M.2 30)))), ((e 31), .inl (0, 30, .inl (nF (M.2 31)))), ((e 32), .inl (0, 12, .inl (nF (M.2 32)))), ((e 1), .inl (0, 740, .inl (nF bt)))] (fun r K' => (∃ mm t, mm ≤ 60 ∧ (60 * mm ≤ t ∧ t ≤ 3600) ∧ x1 = nI mm ∧ x2 = nI t ∧ (¬ x1 < 0 ∧ ¬ nI 60 < x1 ∧ ¬ x2 < nI 60 * x1 ∧ ¬ nI 3600 < x2 ∧ pTdP bt n (D.1 0) 2 12) ∧ r = some (.int (nI ((rwB D f n (D.1 9) t ro).1 15) - nI ((rnB D f n (60 * mm) ru).1 8) - nI ((rwB D f n ((rnB D f n (60 * mm) ru).1 7) (t - 60 * mm) (rwB D f n (D.1 9) t ro)).1 15))) ∧ ∃ (g' : Nat → Int32) (M' : zRs), mFr [0, 2, 22, 33, 34, 35, 36, 37, 38, 39, 40, 41, 42] g g' ∧ g' 0 = nI 0 ∧ g' 2 = nI 0 ∧ g' 22 = 1 ∧ K' = [(mo, .inr (11, fMo e (mg g' M'.1) w)), ((e 14), .inl (0, 800, .inl (mLay g nw))), ((e 24), .inl (0, 12, .inl (nF (M'.2 24)))), ((e 25), .inl (0, 12, .inl (nF (M'.2 25)))), ((e 26), .inl (0, 12, .inl (nF (M'.2 26)))), ((e 27), .inl (0, 12, .inl (nF (M'.2 27)))), ((e 28), .inl (0, 360, .inl (nF (M'.2 28)))), ((e 29), .inl (0, 12, .inl (nF (M'.2 29)))), ((e 30), .inl (0, 12, .inl (nF (M'.2 30)))), ((e 31), .inl (0, 30, .inl (nF (M'.2 31)))), ((e 32), .inl (0, 12, .inl (nF (M'.2 32)))), ((e 1), .inl (0, 740, .inl (nF bt)))]) ∨ (¬ (¬ x1 < 0 ∧ ¬ nI 60 < x1 ∧ ¬ x2 < nI 60 * x1 ∧ ¬ nI 3600 < x2 ∧ pTdP bt n (D.1 0) 2 12) ∧ r = some (.int 0) ∧ ∃ (g' : Nat → Int32) (M' : zRs), mFr [0, 2, 22, 33, 34, 35, 36, 37, 38, 39, 40, 41, 42] g g' ∧ g' 0 = nI 1 ∧ g' 2 = nI n ∧ g' 22 = 1 ∧ K' = [(mo, .inr (11, fMo e (mg g' M'.1) w)), ((e 14), .inl (0, 800, .inl (mLay g nw))), ((e 24), .inl (0, 12, .inl (nF (M'.2 24)))), ((e 25), .inl (0, 12, .inl (nF (M'.2 25)))), ((e 26), .inl (0, 12, .inl (nF (M'.2 26)))), ((e 27), .inl (0, 12, .inl (nF (M'.2 27)))), ((e 28), .inl (0, 360, .inl (nF (M'.2 28)))), ((e 29), .inl (0, 12, .inl (nF (M'.2 29)))), ((e 30), .inl (0, 12, .inl (nF (M'.2 30)))), ((e 31), .inl (0, 30, .inl (nF (M'.2 31)))), ((e 32), .inl (0, 12, .inl (nF (M'.2 32)))), ((e 1), .inl (0, 740, .inl (nF bt)))])) := by
  refine zSp.of (by decide) (Nat.le_of_ble_eq_true rfl) (fun h0 => ?_)
  show zS _ 0 0 0 [(0, .ref mo), (1, .int x1), (2, .int x2)] [] [(mo, .inr (11, fMo e (mg g M.1) w)), ((e 14), .inl (0, 800, .inl nw)), ((e 24), .inl (0, 12, .inl (nF (M.2 24)))), ((e 25), .inl (0, 12, .inl (nF (M.2 25)))), ((e 26), .inl (0, 12, .inl (nF (M.2 26)))), ((e 27), .inl (0, 12, .inl (nF (M.2 27)))), ((e 28), .inl (0, 360, .inl (nF (M.2 28)))), ((e 29), .inl (0, 12, .inl (nF (M.2 29)))), ((e 30), .inl (0, 12, .inl (nF (M.2 30)))), ((e 31), .inl (0, 30, .inl (nF (M.2 31)))), ((e 32), .inl (0, 12, .inl (nF (M.2 32)))), ((e 1), .inl (0, 740, .inl (nF bt)))]
  refine zs_aload_n dX13_cost_0 rfl rfl ?_
  refine zs_callV (M := mX13_lay) (As := []) (st := []) (Kc := [(mo, .inr (11, fMo e (mg g M.1) w)), ((e 14), .inl (0, 800, .inl nw))]) (Kr := [((e 24), .inl (0, 12, .inl (nF (M.2 24)))), ((e 25), .inl (0, 12, .inl (nF (M.2 25)))), ((e 26), .inl (0, 12, .inl (nF (M.2 26)))), ((e 27), .inl (0, 12, .inl (nF (M.2 27)))), ((e 28), .inl (0, 360, .inl (nF (M.2 28)))), ((e 29), .inl (0, 12, .inl (nF (M.2 29)))), ((e 30), .inl (0, 12, .inl (nF (M.2 30)))), ((e 31), .inl (0, 30, .inl (nF (M.2 31)))), ((e 32), .inl (0, 12, .inl (nF (M.2 32)))), ((e 1), .inl (0, 740, .inl (nF bt)))]) [0, 1] [2, 3, 4, 5, 6, 7, 8, 9, 10, 11] 0 dX13_cost_1 zl_RX13_232 kX13_lay rfl rfl rfl rfl rfl (by decide) rfl rfl (show dd - 1 + 1 ≤ dd by omega) (Nat.zero_le _) (Nat.zero_le _) (Nat.le_of_ble_eq_true rfl) (s_mLay l (dd - 1) mo e (mg g M.1) w nw (by omega) hb) (fun r K1 hr => ?_)
  obtain ⟨rfl, g2, hfr2, h22, rfl⟩ := hr
  refine zs_K (K' := [(mo, .inr (11, fMo e g2 w)), ((e 14), .inl (0, 800, .inl (mLay g nw))), ((e 24), .inl (0, 12, .inl (nF (M.2 24)))), ((e 25), .inl (0, 12, .inl (nF (M.2 25)))), ((e 26), .inl (0, 12, .inl (nF (M.2 26)))), ((e 27), .inl (0, 12, .inl (nF (M.2 27)))), ((e 28), .inl (0, 360, .inl (nF (M.2 28)))), ((e 29), .inl (0, 12, .inl (nF (M.2 29)))), ((e 30), .inl (0, 12, .inl (nF (M.2 30)))), ((e 31), .inl (0, 30, .inl (nF (M.2 31)))), ((e 32), .inl (0, 12, .inl (nF (M.2 32)))), ((e 1), .inl (0, 740, .inl (nF bt)))]) [10, 11, 0, 1, 2, 3, 4, 5, 6, 7, 8, 9] rfl (by decide) ?_
  rw [mg_22 hfr2]
  show zS _ _ _ _ _ _ [(mo, .inr (11, fMo e (mg g2 M.1) w)), ((e 14), .inl (0, 800, .inl (mLay g nw))), ((e 24), .inl (0, 12, .inl (nF (M.2 24)))), ((e 25), .inl (0, 12, .inl (nF (M.2 25)))), ((e 26), .inl (0, 12, .inl (nF (M.2 26)))), ((e 27), .inl (0, 12, .inl (nF (M.2 27)))), ((e 28), .inl (0, 360, .inl (nF (M.2 28)))), ((e 29), .inl (0, 12, .inl (nF (M.2 29)))), ((e 30), .inl (0, 12, .inl (nF (M.2 30)))), ((e 31), .inl (0, 30, .inl (nF (M.2 31)))), ((e 32), .inl (0, 12, .inl (nF (M.2 32)))), ((e 1), .inl (0, 740, .inl (nF bt)))]
  have h2_2 : g2 2 = nI n := (hfr2 2 (by decide)).trans h2
  refine zs_aload_n dX13_cost_4 rfl rfl ?_
  refine zs_get 0 dX13_cost_5 zf_RX13_151 rfl (v := .int (g2 2)) rfl ?_
  refine zs_as (y := nI n) h2_2 ?_
  refine zs_istore_n (lv' := [(3, .int (nI n)), (0, .ref mo), (1, .int x1), (2, .int x2)]) dX13_cost_8 (Nat.le_of_ble_eq_true rfl) rfl ?_
  refine zs_iload_n dX13_cost_9 rfl ?_
  refine zs_iconst (v := nI 2) dX13_cost_10 (by decide) ?_
  refine zs_bipush (v := nI 12) dX13_cost_11 (by decide) ?_
  refine zs_callS (M := mX13_isIn) (As := [.int (nI n), .int (nI 2), .int (nI 12)]) (st := []) (Kc := []) (Kr := [(mo, .inr (11, fMo e (mg g2 M.1) w)), ((e 14), .inl (0, 800, .inl (mLay g nw))), ((e 24), .inl (0, 12, .inl (nF (M.2 24)))), ((e 25), .inl (0, 12, .inl (nF (M.2 25)))), ((e 26), .inl (0, 12, .inl (nF (M.2 26)))), ((e 27), .inl (0, 12, .inl (nF (M.2 27)))), ((e 28), .inl (0, 360, .inl (nF (M.2 28)))), ((e 29), .inl (0, 12, .inl (nF (M.2 29)))), ((e 30), .inl (0, 12, .inl (nF (M.2 30)))), ((e 31), .inl (0, 30, .inl (nF (M.2 31)))), ((e 32), .inl (0, 12, .inl (nF (M.2 32)))), ((e 1), .inl (0, 740, .inl (nF bt)))]) [] [0, 1, 2, 3, 4, 5, 6, 7, 8, 9, 10, 11] dX13_cost_13 zl_RX13_219 kX13_isIn rfl rfl rfl rfl rfl (by decide) (show dd - 1 + 1 ≤ dd by omega) (Nat.zero_le _) (Nat.zero_le _) (Nat.le_of_ble_eq_true rfl) (s_mIsIn l (dd - 1) (nI n) (nI 2) (nI 12)) (fun r K1 hr => ?_)
  obtain ⟨rfl, rfl⟩ := hr
  refine zs_K (K' := [(mo, .inr (11, fMo e (mg g2 M.1) w)), ((e 14), .inl (0, 800, .inl (mLay g nw))), ((e 24), .inl (0, 12, .inl (nF (M.2 24)))), ((e 25), .inl (0, 12, .inl (nF (M.2 25)))), ((e 26), .inl (0, 12, .inl (nF (M.2 26)))), ((e 27), .inl (0, 12, .inl (nF (M.2 27)))), ((e 28), .inl (0, 360, .inl (nF (M.2 28)))), ((e 29), .inl (0, 12, .inl (nF (M.2 29)))), ((e 30), .inl (0, 12, .inl (nF (M.2 30)))), ((e 31), .inl (0, 30, .inl (nF (M.2 31)))), ((e 32), .inl (0, 12, .inl (nF (M.2 32)))), ((e 1), .inl (0, 740, .inl (nF bt)))]) [0, 1, 2, 3, 4, 5, 6, 7, 8, 9, 10, 11] rfl (by decide) ?_
  refine zs_if_eq (tgt := 43) dX13_cost_16 (by decide) (fun c_1 => ?_) (fun c_1 => ?_)
  · refine zs_aload_n dX13_cost_43 rfl rfl ?_
    refine zs_callV (M := mX13_refuse) (As := []) (st := []) (Kc := [(mo, .inr (11, fMo e (mg g2 M.1) w))]) (Kr := [((e 14), .inl (0, 800, .inl (mLay g nw))), ((e 24), .inl (0, 12, .inl (nF (M.2 24)))), ((e 25), .inl (0, 12, .inl (nF (M.2 25)))), ((e 26), .inl (0, 12, .inl (nF (M.2 26)))), ((e 27), .inl (0, 12, .inl (nF (M.2 27)))), ((e 28), .inl (0, 360, .inl (nF (M.2 28)))), ((e 29), .inl (0, 12, .inl (nF (M.2 29)))), ((e 30), .inl (0, 12, .inl (nF (M.2 30)))), ((e 31), .inl (0, 30, .inl (nF (M.2 31)))), ((e 32), .inl (0, 12, .inl (nF (M.2 32)))), ((e 1), .inl (0, 740, .inl (nF bt)))]) [0] [1, 2, 3, 4, 5, 6, 7, 8, 9, 10, 11] 0 dX13_cost_44 zl_RX13_291 kX13_refuse rfl rfl rfl rfl rfl (by decide) rfl rfl (show dd - 1 + 1 ≤ dd by omega) (Nat.zero_le _) (Nat.zero_le _) (Nat.le_of_ble_eq_true rfl) (s_mRefuse l (dd - 1) mo e (mg g2 M.1) w) (fun r K1 hr => ?_)
    obtain ⟨rfl, rfl⟩ := hr
    refine zs_K (K' := [(mo, .inr (11, fMo e (mg (upd g2 0 (nI 1)) M.1) w)), ((e 14), .inl (0, 800, .inl (mLay g nw))), ((e 24), .inl (0, 12, .inl (nF (M.2 24)))), ((e 25), .inl (0, 12, .inl (nF (M.2 25)))), ((e 26), .inl (0, 12, .inl (nF (M.2 26)))), ((e 27), .inl (0, 12, .inl (nF (M.2 27)))), ((e 28), .inl (0, 360, .inl (nF (M.2 28)))), ((e 29), .inl (0, 12, .inl (nF (M.2 29)))), ((e 30), .inl (0, 12, .inl (nF (M.2 30)))), ((e 31), .inl (0, 30, .inl (nF (M.2 31)))), ((e 32), .inl (0, 12, .inl (nF (M.2 32)))), ((e 1), .inl (0, 740, .inl (nF bt)))]) [11, 0, 1, 2, 3, 4, 5, 6, 7, 8, 9, 10] rfl (by decide) ?_
    exact zs_iret dX13_cost_47 rfl (Or.inr ⟨(fun q => absurd (show 2 ≤ n ∧ n ≤ 12 from ⟨q.2.2.2.2.1, q.2.2.2.2.2.1⟩) (of_decide_eq_false ((bIn_nat (by omega) (by omega) (by omega)).symm.trans (bI_f c_1)))), rfl, upd g2 0 (nI 1), M, mFr_u (mFr_w (mg_tl hfr2) (by decide) : mFr [0, 2, 22, 33, 34, 35, 36, 37, 38, 39, 40, 41, 42] g g2) (by decide), rfl, h2_2, h22, rfl⟩)
  · have hin2 : 2 ≤ n ∧ n ≤ 12 := of_decide_eq_true ((bIn_nat (by omega) (by omega) (by omega)).symm.trans (bI_t c_1))
    refine zs_iload_n dX13_cost_19 rfl ?_
    refine zs_iconst (v := nI 0) dX13_cost_20 (by decide) ?_
    refine zs_bipush (v := nI 60) dX13_cost_21 (by decide) ?_
    refine zs_callS (M := mX13_isIn) (As := [.int x1, .int (nI 0), .int (nI 60)]) (st := []) (Kc := []) (Kr := [(mo, .inr (11, fMo e (mg g2 M.1) w)), ((e 14), .inl (0, 800, .inl (mLay g nw))), ((e 24), .inl (0, 12, .inl (nF (M.2 24)))), ((e 25), .inl (0, 12, .inl (nF (M.2 25)))), ((e 26), .inl (0, 12, .inl (nF (M.2 26)))), ((e 27), .inl (0, 12, .inl (nF (M.2 27)))), ((e 28), .inl (0, 360, .inl (nF (M.2 28)))), ((e 29), .inl (0, 12, .inl (nF (M.2 29)))), ((e 30), .inl (0, 12, .inl (nF (M.2 30)))), ((e 31), .inl (0, 30, .inl (nF (M.2 31)))), ((e 32), .inl (0, 12, .inl (nF (M.2 32)))), ((e 1), .inl (0, 740, .inl (nF bt)))]) [] [0, 1, 2, 3, 4, 5, 6, 7, 8, 9, 10, 11] dX13_cost_23 zl_RX13_219 kX13_isIn rfl rfl rfl rfl rfl (by decide) (show dd - 1 + 1 ≤ dd by omega) (Nat.zero_le _) (Nat.zero_le _) (Nat.le_of_ble_eq_true rfl) (s_mIsIn l (dd - 1) x1 (nI 0) (nI 60)) (fun r K1 hr => ?_)
    obtain ⟨rfl, rfl⟩ := hr
    refine zs_K (K' := [(mo, .inr (11, fMo e (mg g2 M.1) w)), ((e 14), .inl (0, 800, .inl (mLay g nw))), ((e 24), .inl (0, 12, .inl (nF (M.2 24)))), ((e 25), .inl (0, 12, .inl (nF (M.2 25)))), ((e 26), .inl (0, 12, .inl (nF (M.2 26)))), ((e 27), .inl (0, 12, .inl (nF (M.2 27)))), ((e 28), .inl (0, 360, .inl (nF (M.2 28)))), ((e 29), .inl (0, 12, .inl (nF (M.2 29)))), ((e 30), .inl (0, 12, .inl (nF (M.2 30)))), ((e 31), .inl (0, 30, .inl (nF (M.2 31)))), ((e 32), .inl (0, 12, .inl (nF (M.2 32)))), ((e 1), .inl (0, 740, .inl (nF bt)))]) [0, 1, 2, 3, 4, 5, 6, 7, 8, 9, 10, 11] rfl (by decide) ?_
    refine zs_if_eq (tgt := 43) dX13_cost_26 (by decide) (fun c_2 => ?_) (fun c_2 => ?_)
    · refine zs_aload_n dX13_cost_43 rfl rfl ?_
      refine zs_callV (M := mX13_refuse) (As := []) (st := []) (Kc := [(mo, .inr (11, fMo e (mg g2 M.1) w))]) (Kr := [((e 14), .inl (0, 800, .inl (mLay g nw))), ((e 24), .inl (0, 12, .inl (nF (M.2 24)))), ((e 25), .inl (0, 12, .inl (nF (M.2 25)))), ((e 26), .inl (0, 12, .inl (nF (M.2 26)))), ((e 27), .inl (0, 12, .inl (nF (M.2 27)))), ((e 28), .inl (0, 360, .inl (nF (M.2 28)))), ((e 29), .inl (0, 12, .inl (nF (M.2 29)))), ((e 30), .inl (0, 12, .inl (nF (M.2 30)))), ((e 31), .inl (0, 30, .inl (nF (M.2 31)))), ((e 32), .inl (0, 12, .inl (nF (M.2 32)))), ((e 1), .inl (0, 740, .inl (nF bt)))]) [0] [1, 2, 3, 4, 5, 6, 7, 8, 9, 10, 11] 0 dX13_cost_44 zl_RX13_291 kX13_refuse rfl rfl rfl rfl rfl (by decide) rfl rfl (show dd - 1 + 1 ≤ dd by omega) (Nat.zero_le _) (Nat.zero_le _) (Nat.le_of_ble_eq_true rfl) (s_mRefuse l (dd - 1) mo e (mg g2 M.1) w) (fun r K1 hr => ?_)
      obtain ⟨rfl, rfl⟩ := hr
      refine zs_K (K' := [(mo, .inr (11, fMo e (mg (upd g2 0 (nI 1)) M.1) w)), ((e 14), .inl (0, 800, .inl (mLay g nw))), ((e 24), .inl (0, 12, .inl (nF (M.2 24)))), ((e 25), .inl (0, 12, .inl (nF (M.2 25)))), ((e 26), .inl (0, 12, .inl (nF (M.2 26)))), ((e 27), .inl (0, 12, .inl (nF (M.2 27)))), ((e 28), .inl (0, 360, .inl (nF (M.2 28)))), ((e 29), .inl (0, 12, .inl (nF (M.2 29)))), ((e 30), .inl (0, 12, .inl (nF (M.2 30)))), ((e 31), .inl (0, 30, .inl (nF (M.2 31)))), ((e 32), .inl (0, 12, .inl (nF (M.2 32)))), ((e 1), .inl (0, 740, .inl (nF bt)))]) [11, 0, 1, 2, 3, 4, 5, 6, 7, 8, 9, 10] rfl (by decide) ?_
      exact zs_iret dX13_cost_47 rfl (Or.inr ⟨(fun q => absurd ⟨q.1, q.2.1⟩ (of_decide_eq_false (bI_f c_2))), rfl, upd g2 0 (nI 1), M, mFr_u (mFr_w (mg_tl hfr2) (by decide) : mFr [0, 2, 22, 33, 34, 35, 36, 37, 38, 39, 40, 41, 42] g g2) (by decide), rfl, h2_2, h22, rfl⟩)
    · have hc1 := of_decide_eq_true (bI_t c_2)
      refine zs_iload_n dX13_cost_29 rfl ?_
      refine zs_bipush (v := nI 60) dX13_cost_30 (by decide) ?_
      refine zs_iload_n dX13_cost_32 rfl ?_
      refine zs_imul dX13_cost_33 ?_
      refine zs_sipush (v := nI 3600) dX13_cost_34 (by decide) ?_
      refine zs_callS (M := mX13_isIn) (As := [.int x2, .int ((nI 60) * x1), .int (nI 3600)]) (st := []) (Kc := []) (Kr := [(mo, .inr (11, fMo e (mg g2 M.1) w)), ((e 14), .inl (0, 800, .inl (mLay g nw))), ((e 24), .inl (0, 12, .inl (nF (M.2 24)))), ((e 25), .inl (0, 12, .inl (nF (M.2 25)))), ((e 26), .inl (0, 12, .inl (nF (M.2 26)))), ((e 27), .inl (0, 12, .inl (nF (M.2 27)))), ((e 28), .inl (0, 360, .inl (nF (M.2 28)))), ((e 29), .inl (0, 12, .inl (nF (M.2 29)))), ((e 30), .inl (0, 12, .inl (nF (M.2 30)))), ((e 31), .inl (0, 30, .inl (nF (M.2 31)))), ((e 32), .inl (0, 12, .inl (nF (M.2 32)))), ((e 1), .inl (0, 740, .inl (nF bt)))]) [] [0, 1, 2, 3, 4, 5, 6, 7, 8, 9, 10, 11] dX13_cost_37 zl_RX13_219 kX13_isIn rfl rfl rfl rfl rfl (by decide) (show dd - 1 + 1 ≤ dd by omega) (Nat.zero_le _) (Nat.zero_le _) (Nat.le_of_ble_eq_true rfl) (s_mIsIn l (dd - 1) x2 ((nI 60) * x1) (nI 3600)) (fun r K1 hr => ?_)
      obtain ⟨rfl, rfl⟩ := hr
      refine zs_K (K' := [(mo, .inr (11, fMo e (mg g2 M.1) w)), ((e 14), .inl (0, 800, .inl (mLay g nw))), ((e 24), .inl (0, 12, .inl (nF (M.2 24)))), ((e 25), .inl (0, 12, .inl (nF (M.2 25)))), ((e 26), .inl (0, 12, .inl (nF (M.2 26)))), ((e 27), .inl (0, 12, .inl (nF (M.2 27)))), ((e 28), .inl (0, 360, .inl (nF (M.2 28)))), ((e 29), .inl (0, 12, .inl (nF (M.2 29)))), ((e 30), .inl (0, 12, .inl (nF (M.2 30)))), ((e 31), .inl (0, 30, .inl (nF (M.2 31)))), ((e 32), .inl (0, 12, .inl (nF (M.2 32)))), ((e 1), .inl (0, 740, .inl (nF bt)))]) [0, 1, 2, 3, 4, 5, 6, 7, 8, 9, 10, 11] rfl (by decide) ?_
      refine zs_if_ne (tgt := 48) dX13_cost_40 (by decide) (fun c_3 => ?_) (fun c_3 => ?_)
      · have hc2 := of_decide_eq_true (bI_t c_3)
        obtain ⟨mm, hmm, rfl⟩ := zi_nn (x := x1) hc1.1
        have hmm60 : mm ≤ 60 := by have h := hc1.2; rw [nI_lt' (by omega) (by omega)] at h; omega
        have hx2 : ¬ x2 < 0 := fun q => hc2.1 (by
          rw [nI_mul, zi_lt, nI_t (by omega)]
          rw [zi_lt] at q
          have h0 : (0 : Int32).toInt = 0 := by decide
          omega)
        obtain ⟨t, ht, rfl⟩ := zi_nn hx2
        have htt : 60 * mm ≤ t ∧ t ≤ 3600 := by
          have h := hc2.1
          have h2 := hc2.2
          rw [nI_mul, nI_lt' (by omega) (by omega)] at h
          rw [nI_lt' (by omega) (by omega)] at h2
          omega
        refine zs_iconst (v := nI 0) dX13_cost_48 (by decide) ?_
        refine zs_istore (lv' := [(4, .int (nI 0)), (3, .int (nI n)), (0, .ref mo), (1, .int (nI mm)), (2, .int (nI t))]) dX13_cost_49 (Nat.le_of_ble_eq_true rfl) rfl ?_
        refine zs_iconst (v := nI 0) dX13_cost_51 (by decide) ?_
        refine zs_istore (lv' := [(5, .int (nI 0)), (4, .int (nI 0)), (3, .int (nI n)), (0, .ref mo), (1, .int (nI mm)), (2, .int (nI t))]) dX13_cost_52 (Nat.le_of_ble_eq_true rfl) rfl ?_
        refine zs_lv [3, 4, 5, 2, 1, 0] rfl ?_
        refine zs_eq (K' := [(mo, .inr (11, fMo e (mg g2 M.1) w)), ((e 14), .inl (0, 800, .inl (mLay g nw))), ((e 24), .inl (0, 12, .inl (nF (nCl bt (M.2 24) 0)))), ((e 25), .inl (0, 12, .inl (nF (M.2 25)))), ((e 26), .inl (0, 12, .inl (nF (M.2 26)))), ((e 27), .inl (0, 12, .inl (nF (M.2 27)))), ((e 28), .inl (0, 360, .inl (nF (M.2 28)))), ((e 29), .inl (0, 12, .inl (nF (M.2 29)))), ((e 30), .inl (0, 12, .inl (nF (M.2 30)))), ((e 31), .inl (0, 30, .inl (nF (M.2 31)))), ((e 32), .inl (0, 12, .inl (nF (M.2 32)))), ((e 1), .inl (0, 740, .inl (nF bt)))]) (by rw [nCl_0]) ?_
        have hmm2 : 60 * mm ≤ t ∧ t ≤ 3600 := htt
        refine lp_mco mo e g2 w (mLay g nw) D M bt n (nI mm) (nI t) (by omega) hR hD hbt hin2 (fun r K1 h => ?_) (fun htp => ?_) n 0 0 (Nat.zero_add _) (by decide) (fun j hj => by rw [tSt_0]; exact Nat.zero_testBit j) (fun i hi => absurd hi (Nat.not_lt_zero i)) (fun i hi => absurd hi (Nat.not_lt_zero i))
        · obtain ⟨h1, h4, M2, h3⟩ := h
          exact Or.inr ⟨fun q => h1 q.2.2.2.2, h4, upd g2 0 (nI 1), M2, mFr_u (mFr_w (mg_tl hfr2) (by decide) : mFr [0, 2, 22, 33, 34, 35, 36, 37, 38, 39, 40, 41, 42] g g2) (by decide), rfl, h2_2, h22, h3⟩
        · have hfD : ∀ p, p < n → f p < D.1 0 := fun p hp => by rw [hf p hp]; exact htp.2.2.1 p hp
          have hteam1 : ∀ p, p < n → (M.1, uu M.2 24 (nCl bt (M.2 24) n)).2 24 p = f p := fun p hp => by
            rw [hf p hp]
            exact (show nCl bt (M.2 24) n p = bt p from nCl_s hp)
          refine zs_aload_n dX13_cost_128 rfl rfl ?_
          refine zs_iconst (v := nI 0) dX13_cost_129 (by decide) ?_
          refine zs_put 0 dX13_cost_130 zf_RX13_148 rfl (Nat.le_of_ble_eq_true rfl) (zPv_i _) ?_
          show zS _ _ _ _ _ _ [(mo, .inr (11, fMo e (mg (upd g2 0 (nI 0)) ((M.1, uu M.2 24 (nCl bt (M.2 24) n)).1)) w)), ((e 14), .inl (0, 800, .inl (mLay g nw))), ((e 24), .inl (0, 12, .inl (nF ((M.1, uu M.2 24 (nCl bt (M.2 24) n)).2 24)))), ((e 25), .inl (0, 12, .inl (nF ((M.1, uu M.2 24 (nCl bt (M.2 24) n)).2 25)))), ((e 26), .inl (0, 12, .inl (nF ((M.1, uu M.2 24 (nCl bt (M.2 24) n)).2 26)))), ((e 27), .inl (0, 12, .inl (nF ((M.1, uu M.2 24 (nCl bt (M.2 24) n)).2 27)))), ((e 28), .inl (0, 360, .inl (nF ((M.1, uu M.2 24 (nCl bt (M.2 24) n)).2 28)))), ((e 29), .inl (0, 12, .inl (nF ((M.1, uu M.2 24 (nCl bt (M.2 24) n)).2 29)))), ((e 30), .inl (0, 12, .inl (nF ((M.1, uu M.2 24 (nCl bt (M.2 24) n)).2 30)))), ((e 31), .inl (0, 30, .inl (nF ((M.1, uu M.2 24 (nCl bt (M.2 24) n)).2 31)))), ((e 32), .inl (0, 12, .inl (nF ((M.1, uu M.2 24 (nCl bt (M.2 24) n)).2 32)))), ((e 1), .inl (0, 740, .inl (nF bt)))]
          refine zs_aload_n dX13_cost_133 rfl rfl ?_
          refine zs_callV (M := mX13_take) (As := []) (st := []) (Kc := [(mo, .inr (11, fMo e (mg (upd g2 0 (nI 0)) ((M.1, uu M.2 24 (nCl bt (M.2 24) n)).1)) w))]) (Kr := [((e 14), .inl (0, 800, .inl (mLay g nw))), ((e 24), .inl (0, 12, .inl (nF ((M.1, uu M.2 24 (nCl bt (M.2 24) n)).2 24)))), ((e 25), .inl (0, 12, .inl (nF ((M.1, uu M.2 24 (nCl bt (M.2 24) n)).2 25)))), ((e 26), .inl (0, 12, .inl (nF ((M.1, uu M.2 24 (nCl bt (M.2 24) n)).2 26)))), ((e 27), .inl (0, 12, .inl (nF ((M.1, uu M.2 24 (nCl bt (M.2 24) n)).2 27)))), ((e 28), .inl (0, 360, .inl (nF ((M.1, uu M.2 24 (nCl bt (M.2 24) n)).2 28)))), ((e 29), .inl (0, 12, .inl (nF ((M.1, uu M.2 24 (nCl bt (M.2 24) n)).2 29)))), ((e 30), .inl (0, 12, .inl (nF ((M.1, uu M.2 24 (nCl bt (M.2 24) n)).2 30)))), ((e 31), .inl (0, 30, .inl (nF ((M.1, uu M.2 24 (nCl bt (M.2 24) n)).2 31)))), ((e 32), .inl (0, 12, .inl (nF ((M.1, uu M.2 24 (nCl bt (M.2 24) n)).2 32)))), ((e 1), .inl (0, 740, .inl (nF bt)))]) [0] [1, 2, 3, 4, 5, 6, 7, 8, 9, 10, 11] 0 dX13_cost_134 zl_RX13_235 kX13_take rfl rfl rfl rfl rfl (by decide) rfl rfl (show dd - 1 + 1 ≤ dd by omega) (Nat.zero_le _) (Nat.zero_le _) (Nat.le_of_ble_eq_true rfl) (s_mTake l (dd - 1) mo e (mg (upd g2 0 (nI 0)) ((M.1, uu M.2 24 (nCl bt (M.2 24) n)).1)) w) (fun r K1 hr => ?_)
          obtain ⟨rfl, rfl⟩ := hr
          refine zs_K (K' := [(mo, .inr (11, fMo e (mg (upd (upd g2 0 (nI 0)) 2 (nI 0)) ((M.1, uu M.2 24 (nCl bt (M.2 24) n)).1)) w)), ((e 14), .inl (0, 800, .inl (mLay g nw))), ((e 24), .inl (0, 12, .inl (nF ((M.1, uu M.2 24 (nCl bt (M.2 24) n)).2 24)))), ((e 25), .inl (0, 12, .inl (nF ((M.1, uu M.2 24 (nCl bt (M.2 24) n)).2 25)))), ((e 26), .inl (0, 12, .inl (nF ((M.1, uu M.2 24 (nCl bt (M.2 24) n)).2 26)))), ((e 27), .inl (0, 12, .inl (nF ((M.1, uu M.2 24 (nCl bt (M.2 24) n)).2 27)))), ((e 28), .inl (0, 360, .inl (nF ((M.1, uu M.2 24 (nCl bt (M.2 24) n)).2 28)))), ((e 29), .inl (0, 12, .inl (nF ((M.1, uu M.2 24 (nCl bt (M.2 24) n)).2 29)))), ((e 30), .inl (0, 12, .inl (nF ((M.1, uu M.2 24 (nCl bt (M.2 24) n)).2 30)))), ((e 31), .inl (0, 30, .inl (nF ((M.1, uu M.2 24 (nCl bt (M.2 24) n)).2 31)))), ((e 32), .inl (0, 12, .inl (nF ((M.1, uu M.2 24 (nCl bt (M.2 24) n)).2 32)))), ((e 1), .inl (0, 740, .inl (nF bt)))]) [11, 0, 1, 2, 3, 4, 5, 6, 7, 8, 9, 10] rfl (by decide) ?_
          refine zs_pop dX13_cost_137 rfl ?_
          refine zs_aload_n dX13_cost_138 rfl rfl ?_
          refine zs_iconst (v := nI 1) dX13_cost_139 (by decide) ?_
          refine zs_iload_n dX13_cost_140 rfl ?_
          refine zs_aload_n dX13_cost_141 rfl rfl ?_
          refine zs_get 0 dX13_cost_142 zf_RX13_13 rfl (v := .ref (e 14)) rfl ?_
          refine zs_iconst (v := nI 5) dX13_cost_145 (by decide) ?_
          refine zs_iald 1 dX13_cost_146 rfl (vp_in_nI (by omega) (by omega)) ?_
          refine zs_as (y := nI (D.1 9)) (by rw [nI_c (n := 5) (by omega)]; exact hR.2.2.2.2.2.1) ?_
          refine zs_iload_n dX13_cost_147 rfl ?_
          refine zs_callV (M := mX13_throwsIn) (As := [.int (nI 1), .int (nI n), .int (nI (D.1 9)), .int (nI t)]) (st := []) (Kc := [(mo, .inr (11, fMo e (mg (upd (upd g2 0 (nI 0)) 2 (nI 0)) ((M.1, uu M.2 24 (nCl bt (M.2 24) n)).1)) w)), ((e 14), .inl (0, 800, .inl (mLay g nw))), ((e 24), .inl (0, 12, .inl (nF ((M.1, uu M.2 24 (nCl bt (M.2 24) n)).2 24)))), ((e 25), .inl (0, 12, .inl (nF ((M.1, uu M.2 24 (nCl bt (M.2 24) n)).2 25)))), ((e 26), .inl (0, 12, .inl (nF ((M.1, uu M.2 24 (nCl bt (M.2 24) n)).2 26)))), ((e 27), .inl (0, 12, .inl (nF ((M.1, uu M.2 24 (nCl bt (M.2 24) n)).2 27)))), ((e 28), .inl (0, 360, .inl (nF ((M.1, uu M.2 24 (nCl bt (M.2 24) n)).2 28)))), ((e 29), .inl (0, 12, .inl (nF ((M.1, uu M.2 24 (nCl bt (M.2 24) n)).2 29)))), ((e 30), .inl (0, 12, .inl (nF ((M.1, uu M.2 24 (nCl bt (M.2 24) n)).2 30)))), ((e 31), .inl (0, 30, .inl (nF ((M.1, uu M.2 24 (nCl bt (M.2 24) n)).2 31)))), ((e 32), .inl (0, 12, .inl (nF ((M.1, uu M.2 24 (nCl bt (M.2 24) n)).2 32))))]) (Kr := [((e 1), .inl (0, 740, .inl (nF bt)))]) [0, 1, 2, 3, 4, 5, 6, 7, 8, 9, 10] [11] 0 dX13_cost_148 zl_RX13_376 kX13_throwsIn rfl rfl rfl rfl rfl (by decide) rfl rfl (show dd - 1 + 1 ≤ dd by omega) (Nat.zero_le _) (Nat.zero_le _) (Nat.le_of_ble_eq_true rfl) (s_tThrow1 l (dd - 1) mo e (upd (upd g2 0 (nI 0)) 2 (nI 0)) w (mLay g nw) (yT D (tFn f n)) (M.1, uu M.2 24 (nCl bt (M.2 24) n)) n (D.1 9) t (cBeg D.1 D.2.2.2.1 f 0 n (D.1 9) ro) (D.1 6) hD.2.2.2.2.2.2.2.2.2.2.1.2 (rwB_W hD (by omega) hfD hD.2.2.2.2.2.2.2.2.2.2.2.2.2.1 (Nat.zero_le _) hW) (by omega) hR (tFn_I hD hfD) (by omega) (by omega) (tR_beg (D := (yT D (tFn f n))) (M := (tmWl (M.1, uu M.2 24 (nCl bt (M.2 24) n)) (D.1 9))) (tFn_I hD hfD) (by omega) (fun p hp => by rw [Nat.zero_add]; exact ⟨hteam1 p hp, hfD p hp⟩) rfl (tFn_T (M := (tmWl (M.1, uu M.2 24 (nCl bt (M.2 24) n)) (D.1 9))) hteam1))) (fun r K1 hr => ?_)
          obtain ⟨rfl, N1, hN1, rfl⟩ := hr
          refine zs_K (K' := [(mo, .inr (11, fMo e (mg (upd (upd (upd g2 0 (nI 0)) 2 (nI 0)) 34 (nI 1)) N1.1) w)), ((e 14), .inl (0, 800, .inl (mLay g nw))), ((e 24), .inl (0, 12, .inl (nF (N1.2 24)))), ((e 25), .inl (0, 12, .inl (nF (N1.2 25)))), ((e 26), .inl (0, 12, .inl (nF (N1.2 26)))), ((e 27), .inl (0, 12, .inl (nF (N1.2 27)))), ((e 28), .inl (0, 360, .inl (nF (N1.2 28)))), ((e 29), .inl (0, 12, .inl (nF (N1.2 29)))), ((e 30), .inl (0, 12, .inl (nF (N1.2 30)))), ((e 31), .inl (0, 30, .inl (nF (N1.2 31)))), ((e 32), .inl (0, 12, .inl (nF (N1.2 32)))), ((e 1), .inl (0, 740, .inl (nF bt)))]) [1, 2, 3, 4, 5, 6, 7, 8, 9, 10, 11, 0] rfl (by decide) ?_
          have hN1 : tR (yT D (tFn f n)) (rwB D f n (D.1 9) t ro) N1 := hN1
          have hW1 : cW (rwB D f n (D.1 9) t ro) := (rwB_W hD (by omega) hfD hD.2.2.2.2.2.2.2.2.2.2.2.2.2.1 (by omega) hW).1.w
          have hteam2 := tFn_b hD (by omega) hfD hN1.2.2.2.2
          refine zs_istore (lv' := [(5, .int (nI ((rwB D f n (D.1 9) t ro).1 15))), (0, .ref mo), (1, .int (nI mm)), (2, .int (nI t)), (3, .int (nI n))]) dX13_cost_151 (Nat.le_of_ble_eq_true rfl) rfl ?_
          refine zs_aload_n dX13_cost_153 rfl rfl ?_
          refine zs_iconst (v := nI 2) dX13_cost_154 (by decide) ?_
          refine zs_iload_n dX13_cost_155 rfl ?_
          refine zs_aload_n dX13_cost_156 rfl rfl ?_
          refine zs_get 0 dX13_cost_157 zf_RX13_13 rfl (v := .ref (e 14)) rfl ?_
          refine zs_iconst (v := nI 5) dX13_cost_160 (by decide) ?_
          refine zs_iald 1 dX13_cost_161 rfl (vp_in_nI (by omega) (by omega)) ?_
          refine zs_as (y := nI (D.1 9)) (by rw [nI_c (n := 5) (by omega)]; exact hR.2.2.2.2.2.1) ?_
          refine zs_bipush (v := nI 60) dX13_cost_162 (by decide) ?_
          refine zs_iload_n dX13_cost_164 rfl ?_
          refine zs_imul dX13_cost_165 ?_
          refine zs_as (y := nI (60 * mm)) (nI_mul _ _) ?_
          refine zs_callV (M := mX13_throwsIn) (As := [.int (nI 2), .int (nI n), .int (nI (D.1 9)), .int (nI (60 * mm))]) (st := []) (Kc := [(mo, .inr (11, fMo e (mg (upd (upd (upd g2 0 (nI 0)) 2 (nI 0)) 34 (nI 1)) N1.1) w)), ((e 14), .inl (0, 800, .inl (mLay g nw))), ((e 24), .inl (0, 12, .inl (nF (N1.2 24)))), ((e 25), .inl (0, 12, .inl (nF (N1.2 25)))), ((e 26), .inl (0, 12, .inl (nF (N1.2 26)))), ((e 27), .inl (0, 12, .inl (nF (N1.2 27)))), ((e 28), .inl (0, 360, .inl (nF (N1.2 28)))), ((e 29), .inl (0, 12, .inl (nF (N1.2 29)))), ((e 30), .inl (0, 12, .inl (nF (N1.2 30)))), ((e 31), .inl (0, 30, .inl (nF (N1.2 31)))), ((e 32), .inl (0, 12, .inl (nF (N1.2 32))))]) (Kr := [((e 1), .inl (0, 740, .inl (nF bt)))]) [0, 1, 2, 3, 4, 5, 6, 7, 8, 9, 10] [11] 0 dX13_cost_166 zl_RX13_376 kX13_throwsIn rfl rfl rfl rfl rfl (by decide) rfl rfl (show dd - 1 + 1 ≤ dd by omega) (Nat.zero_le _) (Nat.zero_le _) (Nat.le_of_ble_eq_true rfl) (s_tThrow2 l (dd - 1) mo e (upd (upd (upd g2 0 (nI 0)) 2 (nI 0)) 34 (nI 1)) w (mLay g nw) (yT D (tFn f n)) N1 n (D.1 9) (60 * mm) (rBeg D.1 D.2.2.2.2.1 f 0 n (D.1 9) ru) (by omega) hR (tFn_I hD hfD) (by omega) (by omega) (uR_beg (D := (yT D (tFn f n))) (M := (tmWl N1 (D.1 9))) (tFn_I hD hfD) (by omega) (fun p hp => by rw [Nat.zero_add]; exact ⟨hteam2 p hp, hfD p hp⟩) rfl hD.2.2.2.2.2.2.2.2.2.2.2.2.2.1 hI (tFn_T (M := (tmWl N1 (D.1 9))) hteam2))) (fun r K1 hr => ?_)
          obtain ⟨rfl, N2, hN2, rfl⟩ := hr
          refine zs_K (K' := [(mo, .inr (11, fMo e (mg (upd (upd (upd (upd g2 0 (nI 0)) 2 (nI 0)) 34 (nI 1)) 34 (nI 2)) N2.1) w)), ((e 14), .inl (0, 800, .inl (mLay g nw))), ((e 24), .inl (0, 12, .inl (nF (N2.2 24)))), ((e 25), .inl (0, 12, .inl (nF (N2.2 25)))), ((e 26), .inl (0, 12, .inl (nF (N2.2 26)))), ((e 27), .inl (0, 12, .inl (nF (N2.2 27)))), ((e 28), .inl (0, 360, .inl (nF (N2.2 28)))), ((e 29), .inl (0, 12, .inl (nF (N2.2 29)))), ((e 30), .inl (0, 12, .inl (nF (N2.2 30)))), ((e 31), .inl (0, 30, .inl (nF (N2.2 31)))), ((e 32), .inl (0, 12, .inl (nF (N2.2 32)))), ((e 1), .inl (0, 740, .inl (nF bt)))]) [1, 2, 3, 4, 5, 6, 7, 8, 9, 10, 11, 0] rfl (by decide) ?_
          have hN2 : uR (yT D (tFn f n)) (rnB D f n (60 * mm) ru) N2 := hN2
          have h79 : (rnB D f n (60 * mm) ru).1 7 ≤ 9999 := hN2.2.2.2.1.1
          have hC := rnB_C (D := D) (f := f) (n := n) (k := 60 * mm) (s := ru)
          have hteam3 := tFn_b hD (by omega) hfD hN2.2.2.2.1.2
          refine zs_istore (lv' := [(6, .int (nI ((rnB D f n (60 * mm) ru).1 8))), (5, .int (nI ((rwB D f n (D.1 9) t ro).1 15))), (0, .ref mo), (1, .int (nI mm)), (2, .int (nI t)), (3, .int (nI n))]) dX13_cost_169 (Nat.le_of_ble_eq_true rfl) rfl ?_
          refine zs_iload dX13_cost_171 rfl ?_
          refine zs_iload dX13_cost_173 rfl ?_
          refine zs_isub dX13_cost_175 ?_
          refine zs_aload_n dX13_cost_176 rfl rfl ?_
          refine zs_iconst (v := nI 1) dX13_cost_177 (by decide) ?_
          refine zs_iload_n dX13_cost_178 rfl ?_
          refine zs_aload_n dX13_cost_179 rfl rfl ?_
          refine zs_get 0 dX13_cost_180 zf_RX13_13 rfl (v := .ref (e 14)) rfl ?_
          refine zs_iconst (v := nI 5) dX13_cost_183 (by decide) ?_
          refine zs_iald 1 dX13_cost_184 rfl (vp_in_nI (by omega) (by omega)) ?_
          refine zs_as (y := nI (D.1 9)) (by rw [nI_c (n := 5) (by omega)]; exact hR.2.2.2.2.2.1) ?_
          refine zs_aload_n dX13_cost_185 rfl rfl ?_
          refine zs_get 0 dX13_cost_186 zf_RX13_325 rfl (v := .int (nI (N2.1 42))) rfl ?_
          refine zs_as (y := nI ((rnB D f n (60 * mm) ru).1 9)) (congrArg nI hN2.1.2.2.2) ?_
          refine zs_isub dX13_cost_189 ?_
          refine zs_as (y := nI ((rnB D f n (60 * mm) ru).1 7)) (by rw [nI_sub (by omega)]; exact congrArg nI (by omega)) ?_
          refine zs_iload_n dX13_cost_190 rfl ?_
          refine zs_bipush (v := nI 60) dX13_cost_191 (by decide) ?_
          refine zs_iload_n dX13_cost_193 rfl ?_
          refine zs_imul dX13_cost_194 ?_
          refine zs_as (y := nI (60 * mm)) (nI_mul _ _) ?_
          refine zs_isub dX13_cost_195 ?_
          refine zs_as (y := nI (t - (60 * mm))) (nI_sub (by omega)) ?_
          refine zs_callV (M := mX13_throwsIn) (As := [.int (nI 1), .int (nI n), .int (nI ((rnB D f n (60 * mm) ru).1 7)), .int (nI (t - (60 * mm)))]) (st := [.int ((nI ((rwB D f n (D.1 9) t ro).1 15)) - (nI ((rnB D f n (60 * mm) ru).1 8)))]) (Kc := [(mo, .inr (11, fMo e (mg (upd (upd (upd (upd g2 0 (nI 0)) 2 (nI 0)) 34 (nI 1)) 34 (nI 2)) N2.1) w)), ((e 14), .inl (0, 800, .inl (mLay g nw))), ((e 24), .inl (0, 12, .inl (nF (N2.2 24)))), ((e 25), .inl (0, 12, .inl (nF (N2.2 25)))), ((e 26), .inl (0, 12, .inl (nF (N2.2 26)))), ((e 27), .inl (0, 12, .inl (nF (N2.2 27)))), ((e 28), .inl (0, 360, .inl (nF (N2.2 28)))), ((e 29), .inl (0, 12, .inl (nF (N2.2 29)))), ((e 30), .inl (0, 12, .inl (nF (N2.2 30)))), ((e 31), .inl (0, 30, .inl (nF (N2.2 31)))), ((e 32), .inl (0, 12, .inl (nF (N2.2 32))))]) (Kr := [((e 1), .inl (0, 740, .inl (nF bt)))]) [0, 1, 2, 3, 4, 5, 6, 7, 8, 9, 10] [11] 0 dX13_cost_196 zl_RX13_376 kX13_throwsIn rfl rfl rfl rfl rfl (by decide) rfl rfl (show dd - 1 + 1 ≤ dd by omega) (Nat.zero_le _) (Nat.zero_le _) (Nat.le_of_ble_eq_true rfl) (s_tThrow1 l (dd - 1) mo e (upd (upd (upd (upd g2 0 (nI 0)) 2 (nI 0)) 34 (nI 1)) 34 (nI 2)) w (mLay g nw) (yT D (tFn f n)) N2 n ((rnB D f n (60 * mm) ru).1 7) (t - 60 * mm) (cBeg D.1 D.2.2.2.1 f 0 n ((rnB D f n (60 * mm) ru).1 7) (rwB D f n (D.1 9) t ro)) (D.1 6) hD.2.2.2.2.2.2.2.2.2.2.1.2 (rwB_W hD (by omega) hfD h79 (Nat.zero_le _) hW1) (by omega) hR (tFn_I hD hfD) (by omega) (by omega) (tR_beg (D := (yT D (tFn f n))) (M := (tmWl N2 ((rnB D f n (60 * mm) ru).1 7))) (tFn_I hD hfD) (by omega) (fun p hp => by rw [Nat.zero_add]; exact ⟨hteam3 p hp, hfD p hp⟩) rfl (tFn_T (M := (tmWl N2 ((rnB D f n (60 * mm) ru).1 7))) hteam3))) (fun r K1 hr => ?_)
          obtain ⟨rfl, N3, hN3, rfl⟩ := hr
          refine zs_K (K' := [(mo, .inr (11, fMo e (mg (upd (upd (upd (upd (upd g2 0 (nI 0)) 2 (nI 0)) 34 (nI 1)) 34 (nI 2)) 34 (nI 1)) N3.1) w)), ((e 14), .inl (0, 800, .inl (mLay g nw))), ((e 24), .inl (0, 12, .inl (nF (N3.2 24)))), ((e 25), .inl (0, 12, .inl (nF (N3.2 25)))), ((e 26), .inl (0, 12, .inl (nF (N3.2 26)))), ((e 27), .inl (0, 12, .inl (nF (N3.2 27)))), ((e 28), .inl (0, 360, .inl (nF (N3.2 28)))), ((e 29), .inl (0, 12, .inl (nF (N3.2 29)))), ((e 30), .inl (0, 12, .inl (nF (N3.2 30)))), ((e 31), .inl (0, 30, .inl (nF (N3.2 31)))), ((e 32), .inl (0, 12, .inl (nF (N3.2 32)))), ((e 1), .inl (0, 740, .inl (nF bt)))]) [1, 2, 3, 4, 5, 6, 7, 8, 9, 10, 11, 0] rfl (by decide) ?_
          refine zs_isub dX13_cost_199 ?_
          exact zs_iret dX13_cost_200 rfl (Or.inl ⟨mm, t, by omega, htt, rfl, rfl, ⟨hc1.1, hc1.2, hc2.1, hc2.2, htp⟩, rfl, (upd (upd (upd (upd (upd g2 0 (nI 0)) 2 (nI 0)) 34 (nI 1)) 34 (nI 2)) 34 (nI 1)), N3, (mFr_u (mFr_u (mFr_u (mFr_u (mFr_u (mFr_w (mg_tl hfr2) (by decide) : mFr [0, 2, 22, 33, 34, 35, 36, 37, 38, 39, 40, 41, 42] g g2) (by decide)) (by decide)) (by decide)) (by decide)) (by decide)), rfl, rfl, h22, rfl⟩)
      · refine zs_aload_n dX13_cost_43 rfl rfl ?_
        refine zs_callV (M := mX13_refuse) (As := []) (st := []) (Kc := [(mo, .inr (11, fMo e (mg g2 M.1) w))]) (Kr := [((e 14), .inl (0, 800, .inl (mLay g nw))), ((e 24), .inl (0, 12, .inl (nF (M.2 24)))), ((e 25), .inl (0, 12, .inl (nF (M.2 25)))), ((e 26), .inl (0, 12, .inl (nF (M.2 26)))), ((e 27), .inl (0, 12, .inl (nF (M.2 27)))), ((e 28), .inl (0, 360, .inl (nF (M.2 28)))), ((e 29), .inl (0, 12, .inl (nF (M.2 29)))), ((e 30), .inl (0, 12, .inl (nF (M.2 30)))), ((e 31), .inl (0, 30, .inl (nF (M.2 31)))), ((e 32), .inl (0, 12, .inl (nF (M.2 32)))), ((e 1), .inl (0, 740, .inl (nF bt)))]) [0] [1, 2, 3, 4, 5, 6, 7, 8, 9, 10, 11] 0 dX13_cost_44 zl_RX13_291 kX13_refuse rfl rfl rfl rfl rfl (by decide) rfl rfl (show dd - 1 + 1 ≤ dd by omega) (Nat.zero_le _) (Nat.zero_le _) (Nat.le_of_ble_eq_true rfl) (s_mRefuse l (dd - 1) mo e (mg g2 M.1) w) (fun r K1 hr => ?_)
        obtain ⟨rfl, rfl⟩ := hr
        refine zs_K (K' := [(mo, .inr (11, fMo e (mg (upd g2 0 (nI 1)) M.1) w)), ((e 14), .inl (0, 800, .inl (mLay g nw))), ((e 24), .inl (0, 12, .inl (nF (M.2 24)))), ((e 25), .inl (0, 12, .inl (nF (M.2 25)))), ((e 26), .inl (0, 12, .inl (nF (M.2 26)))), ((e 27), .inl (0, 12, .inl (nF (M.2 27)))), ((e 28), .inl (0, 360, .inl (nF (M.2 28)))), ((e 29), .inl (0, 12, .inl (nF (M.2 29)))), ((e 30), .inl (0, 12, .inl (nF (M.2 30)))), ((e 31), .inl (0, 30, .inl (nF (M.2 31)))), ((e 32), .inl (0, 12, .inl (nF (M.2 32)))), ((e 1), .inl (0, 740, .inl (nF bt)))]) [11, 0, 1, 2, 3, 4, 5, 6, 7, 8, 9, 10] rfl (by decide) ?_
        exact zs_iret dX13_cost_47 rfl (Or.inr ⟨(fun q => absurd ⟨q.2.2.1, q.2.2.2.1⟩ (of_decide_eq_false (bI_f c_3))), rfl, upd g2 0 (nI 1), M, mFr_u (mFr_w (mg_tl hfr2) (by decide) : mFr [0, 2, 22, 33, 34, 35, 36, 37, 38, 39, 40, 41, 42] g g2) (by decide), rfl, h2_2, h22, rfl⟩)
