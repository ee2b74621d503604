/-! ===== the reference: a once-told line ===== -/
theorem had_z {t k : Nat} (ht : t < 128) (hk : 3 ≤ k ∧ k < 10) : zHs (nI (hdM t)) (nI k) = 0 ↔ t &&& 2 ^ cb k = 0 := by
  have h := (had_t t ht k hk.2 hk.1).1
  unfold zHs
  by_cases q : t &&& 2 ^ cb k = 0
  · rw [if_neg (fun z => h.mp z q)]
    exact ⟨fun _ => q, fun _ => rfl⟩
  · rw [if_pos (h.mpr q)]
    exact ⟨fun z => absurd z (by decide), fun z => absurd z q⟩
theorem dX13_readOnce_0 : decode cX13_readOnce 0 = .ok (.aload_n 0, 1) := by decide +kernel
theorem dX13_readOnce_1 : decode cX13_readOnce 1 = .ok (.getfield 255, 3) := by decide +kernel
theorem dX13_readOnce_4 : decode cX13_readOnce 4 = .ok (.iload_n 1, 1) := by decide +kernel
theorem dX13_readOnce_5 : decode cX13_readOnce 5 = .ok (.invokestatic 258, 3) := by decide +kernel
theorem dX13_readOnce_8 : decode cX13_readOnce 8 = .ok (.ifCond .eq 9, 3) := by decide +kernel
theorem dX13_readOnce_11 : decode cX13_readOnce 11 = .ok (.aload_n 0, 1) := by decide +kernel
theorem dX13_readOnce_12 : decode cX13_readOnce 12 = .ok (.iconst 3, 1) := by decide +kernel
theorem dX13_readOnce_13 : decode cX13_readOnce 13 = .ok (.invokevirtual 216, 3) := by decide +kernel
theorem dX13_readOnce_16 : decode cX13_readOnce 16 = .ok (.ireturn, 1) := by decide +kernel
theorem dX13_readOnce_17 : decode cX13_readOnce 17 = .ok (.aload_n 0, 1) := by decide +kernel
theorem dX13_readOnce_18 : decode cX13_readOnce 18 = .ok (.dup, 1) := by decide +kernel
theorem dX13_readOnce_19 : decode cX13_readOnce 19 = .ok (.getfield 255, 3) := by decide +kernel
theorem dX13_readOnce_22 : decode cX13_readOnce 22 = .ok (.iconst 1, 1) := by decide +kernel
theorem dX13_readOnce_23 : decode cX13_readOnce 23 = .ok (.iload_n 1, 1) := by decide +kernel
theorem dX13_readOnce_24 : decode cX13_readOnce 24 = .ok (.ishl, 1) := by decide +kernel
theorem dX13_readOnce_25 : decode cX13_readOnce 25 = .ok (.ior, 1) := by decide +kernel
theorem dX13_readOnce_26 : decode cX13_readOnce 26 = .ok (.putfield 255, 3) := by decide +kernel
theorem dX13_readOnce_29 : decode cX13_readOnce 29 = .ok (.aload_n 0, 1) := by decide +kernel
theorem dX13_readOnce_30 : decode cX13_readOnce 30 = .ok (.invokevirtual 226, 3) := by decide +kernel
theorem dX13_readOnce_33 : decode cX13_readOnce 33 = .ok (.iload_n 1, 1) := by decide +kernel
theorem dX13_readOnce_34 : decode cX13_readOnce 34 = .ok (.tableswitch 135 3 8 #[38, 48, 76, 105, 115, 125], 38) := by decide +kernel
theorem dX13_readOnce_72 : decode cX13_readOnce 72 = .ok (.aload_n 0, 1) := by decide +kernel
theorem dX13_readOnce_73 : decode cX13_readOnce 73 = .ok (.iconst 1, 1) := by decide +kernel
theorem dX13_readOnce_74 : decode cX13_readOnce 74 = .ok (.bipush 10, 2) := by decide +kernel
theorem dX13_readOnce_76 : decode cX13_readOnce 76 = .ok (.bipush 99, 2) := by decide +kernel
theorem dX13_readOnce_78 : decode cX13_readOnce 78 = .ok (.invokevirtual 261, 3) := by decide +kernel
theorem dX13_readOnce_81 : decode cX13_readOnce 81 = .ok (.ireturn, 1) := by decide +kernel
theorem dX13_readOnce_82 : decode cX13_readOnce 82 = .ok (.aload_n 0, 1) := by decide +kernel
theorem dX13_readOnce_83 : decode cX13_readOnce 83 = .ok (.iconst 2, 1) := by decide +kernel
theorem dX13_readOnce_84 : decode cX13_readOnce 84 = .ok (.iconst 1, 1) := by decide +kernel
theorem dX13_readOnce_85 : decode cX13_readOnce 85 = .ok (.bipush 30, 2) := by decide +kernel
theorem dX13_readOnce_87 : decode cX13_readOnce 87 = .ok (.invokevirtual 261, 3) := by decide +kernel
theorem dX13_readOnce_90 : decode cX13_readOnce 90 = .ok (.ifCond .eq 18, 3) := by decide +kernel
theorem dX13_readOnce_93 : decode cX13_readOnce 93 = .ok (.aload_n 0, 1) := by decide +kernel
theorem dX13_readOnce_94 : decode cX13_readOnce 94 = .ok (.iconst 3, 1) := by decide +kernel
theorem dX13_readOnce_95 : decode cX13_readOnce 95 = .ok (.iconst 1, 1) := by decide +kernel
theorem dX13_readOnce_96 : decode cX13_readOnce 96 = .ok (.bipush 20, 2) := by decide +kernel
theorem dX13_readOnce_98 : decode cX13_readOnce 98 = .ok (.invokevirtual 261, 3) := by decide +kernel
theorem dX13_readOnce_101 : decode cX13_readOnce 101 = .ok (.ifCond .eq 7, 3) := by decide +kernel
theorem dX13_readOnce_104 : decode cX13_readOnce 104 = .ok (.iconst 1, 1) := by decide +kernel
theorem dX13_readOnce_105 : decode cX13_readOnce 105 = .ok (.goto 4, 3) := by decide +kernel
theorem dX13_readOnce_108 : decode cX13_readOnce 108 = .ok (.iconst 0, 1) := by decide +kernel
theorem dX13_readOnce_109 : decode cX13_readOnce 109 = .ok (.ireturn, 1) := by decide +kernel
theorem dX13_readOnce_110 : decode cX13_readOnce 110 = .ok (.aload_n 0, 1) := by decide +kernel
theorem dX13_readOnce_111 : decode cX13_readOnce 111 = .ok (.iconst 4, 1) := by decide +kernel
theorem dX13_readOnce_112 : decode cX13_readOnce 112 = .ok (.iconst 1, 1) := by decide +kernel
theorem dX13_readOnce_113 : decode cX13_readOnce 113 = .ok (.bipush 30, 2) := by decide +kernel
theorem dX13_readOnce_115 : decode cX13_readOnce 115 = .ok (.invokevirtual 261, 3) := by decide +kernel
theorem dX13_readOnce_118 : decode cX13_readOnce 118 = .ok (.ifCond .eq 19, 3) := by decide +kernel
theorem dX13_readOnce_121 : decode cX13_readOnce 121 = .ok (.aload_n 0, 1) := by decide +kernel
theorem dX13_readOnce_122 : decode cX13_readOnce 122 = .ok (.iconst 5, 1) := by decide +kernel
theorem dX13_readOnce_123 : decode cX13_readOnce 123 = .ok (.iconst 0, 1) := by decide +kernel
theorem dX13_readOnce_124 : decode cX13_readOnce 124 = .ok (.sipush 9999, 3) := by decide +kernel
theorem dX13_readOnce_127 : decode cX13_readOnce 127 = .ok (.invokevirtual 261, 3) := by decide +kernel
theorem dX13_readOnce_130 : decode cX13_readOnce 130 = .ok (.ifCond .eq 7, 3) := by decide +kernel
theorem dX13_readOnce_133 : decode cX13_readOnce 133 = .ok (.iconst 1, 1) := by decide +kernel
theorem dX13_readOnce_134 : decode cX13_readOnce 134 = .ok (.goto 4, 3) := by decide +kernel
theorem dX13_readOnce_137 : decode cX13_readOnce 137 = .ok (.iconst 0, 1) := by decide +kernel
theorem dX13_readOnce_138 : decode cX13_readOnce 138 = .ok (.ireturn, 1) := by decide +kernel
theorem dX13_readOnce_139 : decode cX13_readOnce 139 = .ok (.aload_n 0, 1) := by decide +kernel
theorem dX13_readOnce_140 : decode cX13_readOnce 140 = .ok (.bipush 6, 2) := by decide +kernel
theorem dX13_readOnce_142 : decode cX13_readOnce 142 = .ok (.iconst 0, 1) := by decide +kernel
theorem dX13_readOnce_143 : decode cX13_readOnce 143 = .ok (.bipush 99, 2) := by decide +kernel
theorem dX13_readOnce_145 : decode cX13_readOnce 145 = .ok (.invokevirtual 261, 3) := by decide +kernel
theorem dX13_readOnce_148 : decode cX13_readOnce 148 = .ok (.ireturn, 1) := by decide +kernel
theorem dX13_readOnce_149 : decode cX13_readOnce 149 = .ok (.aload_n 0, 1) := by decide +kernel
theorem dX13_readOnce_150 : decode cX13_readOnce 150 = .ok (.bipush 7, 2) := by decide +kernel
theorem dX13_readOnce_152 : decode cX13_readOnce 152 = .ok (.iconst 1, 1) := by decide +kernel
theorem dX13_readOnce_153 : decode cX13_readOnce 153 = .ok (.bipush 99, 2) := by decide +kernel
theorem dX13_readOnce_155 : decode cX13_readOnce 155 = .ok (.invokevirtual 261, 3) := by decide +kernel
theorem dX13_readOnce_158 : decode cX13_readOnce 158 = .ok (.ireturn, 1) := by decide +kernel
theorem dX13_readOnce_159 : decode cX13_readOnce 159 = .ok (.aload_n 0, 1) := by decide +kernel
theorem dX13_readOnce_160 : decode cX13_readOnce 160 = .ok (.bipush 8, 2) := by decide +kernel
theorem dX13_readOnce_162 : decode cX13_readOnce 162 = .ok (.iconst 1, 1) := by decide +kernel
theorem dX13_readOnce_163 : decode cX13_readOnce 163 = .ok (.bipush 9, 2) := by decide +kernel
theorem dX13_readOnce_165 : decode cX13_readOnce 165 = .ok (.invokevirtual 261, 3) := by decide +kernel
theorem dX13_readOnce_168 : decode cX13_readOnce 168 = .ok (.ireturn, 1) := by decide +kernel
theorem dX13_readOnce_169 : decode cX13_readOnce 169 = .ok (.iconst 0, 1) := by decide +kernel
theorem dX13_readOnce_170 : decode cX13_readOnce 170 = .ok (.istore_n 2, 1) := by decide +kernel
theorem dX13_readOnce_171 : decode cX13_readOnce 171 = .ok (.iload_n 2, 1) := by decide +kernel
theorem dX13_readOnce_172 : decode cX13_readOnce 172 = .ok (.iconst 4, 1) := by decide +kernel
theorem dX13_readOnce_173 : decode cX13_readOnce 173 = .ok (.if_icmp .ge 20, 3) := by decide +kernel
theorem dX13_readOnce_176 : decode cX13_readOnce 176 = .ok (.aload_n 0, 1) := by decide +kernel
theorem dX13_readOnce_177 : decode cX13_readOnce 177 = .ok (.bipush 10, 2) := by decide +kernel
theorem dX13_readOnce_179 : decode cX13_readOnce 179 = .ok (.iload_n 2, 1) := by decide +kernel
theorem dX13_readOnce_180 : decode cX13_readOnce 180 = .ok (.iadd, 1) := by decide +kernel
theorem dX13_readOnce_181 : decode cX13_readOnce 181 = .ok (.invokevirtual 264, 3) := by decide +kernel
theorem dX13_readOnce_184 : decode cX13_readOnce 184 = .ok (.ifCond .ne 9, 3) := by decide +kernel
theorem dX13_readOnce_187 : decode cX13_readOnce 187 = .ok (.iinc 2 1, 3) := by decide +kernel
theorem dX13_readOnce_190 : decode cX13_readOnce 190 = .ok (.goto (-19), 3) := by decide +kernel
theorem dX13_readOnce_193 : decode cX13_readOnce 193 = .ok (.iload_n 2, 1) := by decide +kernel
theorem dX13_readOnce_194 : decode cX13_readOnce 194 = .ok (.iconst 4, 1) := by decide +kernel
theorem dX13_readOnce_195 : decode cX13_readOnce 195 = .ok (.if_icmp .ne 9, 3) := by decide +kernel
theorem dX13_readOnce_198 : decode cX13_readOnce 198 = .ok (.aload_n 0, 1) := by decide +kernel
theorem dX13_readOnce_199 : decode cX13_readOnce 199 = .ok (.iconst 1, 1) := by decide +kernel
theorem dX13_readOnce_200 : decode cX13_readOnce 200 = .ok (.invokevirtual 216, 3) := by decide +kernel
theorem dX13_readOnce_203 : decode cX13_readOnce 203 = .ok (.ireturn, 1) := by decide +kernel
theorem dX13_readOnce_204 : decode cX13_readOnce 204 = .ok (.aload_n 0, 1) := by decide +kernel
theorem dX13_readOnce_205 : decode cX13_readOnce 205 = .ok (.getfield 16, 3) := by decide +kernel
theorem dX13_readOnce_208 : decode cX13_readOnce 208 = .ok (.bipush 11, 2) := by decide +kernel
theorem dX13_readOnce_210 : decode cX13_readOnce 210 = .ok (.iload_n 2, 1) := by decide +kernel
theorem dX13_readOnce_211 : decode cX13_readOnce 211 = .ok (.iastore, 1) := by decide +kernel
theorem dX13_readOnce_212 : decode cX13_readOnce 212 = .ok (.aload_n 0, 1) := by decide +kernel
theorem dX13_readOnce_213 : decode cX13_readOnce 213 = .ok (.invokevirtual 226, 3) := by decide +kernel
theorem dX13_readOnce_216 : decode cX13_readOnce 216 = .ok (.iconst 1, 1) := by decide +kernel
theorem dX13_readOnce_217 : decode cX13_readOnce 217 = .ok (.ireturn, 1) := by decide +kernel
set_option maxRecDepth 100000 in
theorem s_mReadOnce (l : Launch) (dd : Nat) (mo : Nat) (e : Nat → Nat) (g : Nat → Int32) (w : Int64) (n L : Nat) (bt : Nat → Nat) (t : zTk) (tk : Nat) (D : zYd) (rf : Nat → Int32) (rn : Nat → Int64) (k : Nat) (hd : 5 ≤ dd) (hn : n ≤ 740) (hL : L ≤ 740) (hbt : ∀ j, bt j < 256) (h3 : g 3 = nI n) (h4 : g 4 = nI L) (hT : mTk n L t g w) (hW : tW n L t) (hO : tOK t) (hD : yI D) (hRd : rdR D g rf rn) (hk2 : t.1 = 2) (hk : 3 ≤ k ∧ k < 10) : zSp l mX13_readOnce dd 0 0 [.ref mo, .int (nI k)] [(mo, .inr (11, fMo e g w)), ((e 1), .inl (0, 740, .inl (nF bt))), ((e 15), .inl (0, 200, .inl rf)), ((e 19), .inl (2, 12, .inr (.inl rn)))] (fun r K' => ((mOn bt n L k t tk D).1 = 0 ∧ r = some (.int 1) ∧ ∃ g' w' rf' rn', mFr [5, 6, 7, 8, 9, 13, 23] g g' ∧ mTk n L (mOn bt n L k t tk D).2.1 g' w' ∧ tW n L (mOn bt n L k t tk D).2.1 ∧ rdR (mOn bt n L k t tk D).2.2.2 g' rf' rn' ∧ K' = [(mo, .inr (11, fMo e g' w'))] ++ ([((e 1), .inl (0, 740, .inl (nF bt)))] ++ ([((e 15), .inl (0, 200, .inl rf'))] ++ [((e 19), .inl (2, 12, .inr (.inl rn')))]))) ∨ (¬ (mOn bt n L k t tk D).1 = 0 ∧ r = some (.int 0) ∧ ∃ g' w' rf' rn', mFr [5, 6, 7, 8, 9, 10, 11, 13, 23] g g' ∧ g' 10 = nI (mOn bt n L k t tk D).1 ∧ g' 11 = nI (mOn bt n L k t tk D).2.1.2.1 ∧ K' = [(mo, .inr (11, fMo e g' w'))] ++ ([((e 1), .inl (0, 740, .inl (nF bt)))] ++ ([((e 15), .inl (0, 200, .inl rf'))] ++ [((e 19), .inl (2, 12, .inr (.inl rn')))])))) := by
  refine zSp.of (by decide) (Nat.le_of_ble_eq_true rfl) (fun h0 => ?_)
  show zS _ 0 0 0 [(0, .ref mo), (1, .int (nI k))] [] [(mo, .inr (11, fMo e g w)), ((e 1), .inl (0, 740, .inl (nF bt))), ((e 15), .inl (0, 200, .inl rf)), ((e 19), .inl (2, 12, .inr (.inl rn)))]
  have h18b := hD.2.2.2.2.2.2.1
  refine zs_aload_n dX13_readOnce_0 rfl rfl ?_
  refine zs_get 0 dX13_readOnce_1 zf_RX13_255 rfl (v := .int (g 23)) rfl ?_
  refine zs_as (y := nI (hdM (D.1 18))) hRd.2.2 ?_
  refine zs_iload_n dX13_readOnce_4 rfl ?_
  refine zs_callS (M := mX13_has) (As := [.int (nI (hdM (D.1 18))), .int (nI k)]) (st := []) (Kc := []) (Kr := [(mo, .inr (11, fMo e g w)), ((e 1), .inl (0, 740, .inl (nF bt))), ((e 15), .inl (0, 200, .inl rf)), ((e 19), .inl (2, 12, .inr (.inl rn)))]) [] [0, 1, 2, 3] dX13_readOnce_5 zl_RX13_258 kX13_has rfl rfl rfl rfl rfl (by decide) (show dd - 1 + 1 ≤ dd by omega) (Nat.zero_le _) (Nat.zero_le _) (Nat.le_of_ble_eq_true rfl) (s_mHas l (dd - 1) (nI (hdM (D.1 18))) (nI k)) (fun r K1 hr => ?_)
  obtain ⟨rfl, rfl⟩ := hr
  refine zs_K (K' := [(mo, .inr (11, fMo e g w)), ((e 1), .inl (0, 740, .inl (nF bt))), ((e 15), .inl (0, 200, .inl rf)), ((e 19), .inl (2, 12, .inr (.inl rn)))]) [0, 1, 2, 3] rfl (by decide) ?_
  refine zs_if_eq (tgt := 17) dX13_readOnce_8 (by decide) (fun c_1 => ?_) (fun c_1 => ?_)
  · have h18 := (had_z h18b hk).mp c_1
    refine zs_aload_n dX13_readOnce_17 rfl rfl ?_
    refine zs_dup dX13_readOnce_18 rfl ?_
    refine zs_get 0 dX13_readOnce_19 zf_RX13_255 rfl (v := .int (g 23)) rfl ?_
    refine zs_as (y := nI (hdM (D.1 18))) hRd.2.2 ?_
    refine zs_iconst (v := nI 1) dX13_readOnce_22 (by decide) ?_
    refine zs_iload_n dX13_readOnce_23 rfl ?_
    refine zs_ishl dX13_readOnce_24 ?_
    refine zs_ior dX13_readOnce_25 ?_
    refine zs_as (y := nI (hdM (D.1 18 ||| 2 ^ cb k))) (had_t _ h18b k hk.2 hk.1).2 ?_
    refine zs_put 0 dX13_readOnce_26 zf_RX13_255 rfl (Nat.le_of_ble_eq_true rfl) (zPv_i _) ?_
    show zS _ _ _ _ _ _ [(mo, .inr (11, fMo e (upd g 23 (nI (hdM (D.1 18 ||| 2 ^ cb k)))) w)), ((e 1), .inl (0, 740, .inl (nF bt))), ((e 15), .inl (0, 200, .inl rf)), ((e 19), .inl (2, 12, .inr (.inl rn)))]
    refine zs_aload_n dX13_readOnce_29 rfl rfl ?_
    refine zs_callV (M := mX13_go) (As := []) (st := []) (Kc := [(mo, .inr (11, fMo e (upd g 23 (nI (hdM (D.1 18 ||| 2 ^ cb k)))) w)), ((e 1), .inl (0, 740, .inl (nF bt)))]) (Kr := [((e 15), .inl (0, 200, .inl rf)), ((e 19), .inl (2, 12, .inr (.inl rn)))]) [0, 1] [2, 3] 0 dX13_readOnce_30 zl_RX13_226 kX13_go rfl rfl rfl rfl rfl (by decide) rfl rfl (show dd - 1 + 1 ≤ dd by omega) (Nat.zero_le _) (Nat.zero_le _) (Nat.le_of_ble_eq_true rfl) (s_mGoT l (dd - 1) mo e (upd g 23 (nI (hdM (D.1 18 ||| 2 ^ cb k)))) w n L bt t (by omega) hn hL hbt (show (upd g 23 (nI (hdM (D.1 18 ||| 2 ^ cb k)))) 3 = nI n from h3) (show (upd g 23 (nI (hdM (D.1 18 ||| 2 ^ cb k)))) 4 = nI L from h4) (mTk_f hT rfl rfl rfl rfl rfl) hW (show ¬ t.1 = 0 by omega)) (fun r K1 hr => ?_)
    obtain ⟨rfl, g1, w1, hfr1, hT1, rfl⟩ := hr
    refine zs_K (K' := [(mo, .inr (11, fMo e g1 w1)), ((e 1), .inl (0, 740, .inl (nF bt))), ((e 15), .inl (0, 200, .inl rf)), ((e 19), .inl (2, 12, .inr (.inl rn)))]) [2, 3, 0, 1] rfl (by decide) ?_
    have fr1 : mFr [5, 6, 7, 8, 9, 13, 23] g g1 := mFr_t ((mFr_u mFr_r (by decide)) : mFr [5, 6, 7, 8, 9, 13, 23] g (upd g 23 (nI (hdM (D.1 18 ||| 2 ^ cb k))))) hfr1 (by decide) (by decide)
    have h3_1 : g1 3 = nI n := (hfr1 3 (by decide)).trans (show (upd g 23 (nI (hdM (D.1 18 ||| 2 ^ cb k)))) 3 = nI n from h3)
    have h4_1 : g1 4 = nI L := (hfr1 4 (by decide)).trans (show (upd g 23 (nI (hdM (D.1 18 ||| 2 ^ cb k)))) 4 = nI L from h4)
    have h23_1 : g1 23 = (upd g 23 (nI (hdM (D.1 18 ||| 2 ^ cb k)))) 23 := hfr1 23 (by decide)
    have hO_1 := nxt_OK (L := L) (τ := t) hbt hn
    have h14_1 := hO_1.1
    have hkd_1 := mKd_4 (n := n) (L := L) hO_1.1
    refine zs_iload_n dX13_readOnce_33 rfl ?_
    by_cases h34_3 : k = 3
    · refine zs_as (y := nI 3) (congrArg nI h34_3) ?_
      refine zs_tableIn (off := 38) (tgt := 72) dX13_readOnce_34 (by decide) (by decide) rfl (by decide) ?_
      have h18_3 : D.1 18 &&& 2 ^ cb 3 = 0 := by rw [← h34_3]; exact h18
      refine zs_aload_n dX13_readOnce_72 rfl rfl ?_
      refine zs_iconst (v := nI 1) dX13_readOnce_73 (by decide) ?_
      refine zs_bipush (v := nI 10) dX13_readOnce_74 (by decide) ?_
      refine zs_bipush (v := nI 99) dX13_readOnce_76 (by decide) ?_
      refine zs_callV (M := mX13_readInto) (As := [.int (nI 1), .int (nI 10), .int (nI 99)]) (st := []) (Kc := [(mo, .inr (11, fMo e g1 w1)), ((e 1), .inl (0, 740, .inl (nF bt))), ((e 15), .inl (0, 200, .inl rf))]) (Kr := [((e 19), .inl (2, 12, .inr (.inl rn)))]) [0, 1, 2] [3] 0 dX13_readOnce_78 zl_RX13_261 kX13_readInto rfl rfl rfl rfl rfl (by decide) rfl rfl (show dd - 1 + 1 ≤ dd by omega) (Nat.zero_le _) (Nat.zero_le _) (Nat.le_of_ble_eq_true rfl) (s_mReadInto l (dd - 1) mo e g1 w1 n L bt (nxt bt n L t) rf 1 10 99 (by omega) hn hL hbt h3_1 h4_1 hT1 (nxt_W (b := bt) (n := n) (L := L) (τ := t)) hO_1 (by omega) (by omega) (by omega)) (fun r K1 hr => ?_)
      rcases hr with ⟨hq2, rfl, g2, w2, hfr2, hT2, rfl⟩ | ⟨hq2, rfl, rfl⟩
      · refine zs_K (K' := [(mo, .inr (11, fMo e g2 w2)), ((e 1), .inl (0, 740, .inl (nF bt))), ((e 15), .inl (0, 200, .inl (upd rf 1 (nI (nxt bt n L t).2.2.2.1)))), ((e 19), .inl (2, 12, .inr (.inl rn)))]) [1, 2, 3, 0] rfl (by decide) ?_
        have fr2 : mFr [5, 6, 7, 8, 9, 13, 23] g g2 := mFr_t (fr1 : mFr [5, 6, 7, 8, 9, 13, 23] g g1) hfr2 (by decide) (by decide)
        have h3_2 : g2 3 = nI n := (hfr2 3 (by decide)).trans h3_1
        have h4_2 : g2 4 = nI L := (hfr2 4 (by decide)).trans h4_1
        have h23_2 : g2 23 = g1 23 := hfr2 23 (by decide)
        have hO_2 := nxt_OK (L := L) (τ := (nxt bt n L t)) hbt hn
        have h14_2 := hO_2.1
        have hkd_2 := mKd_4 (n := n) (L := L) hO_2.1
        have er : (mOn bt n L k t tk D) = (0, (nxt bt n L (nxt bt n L t)), (nxt bt n L t).2.2.2.1, ((un (un D.1 18 (D.1 18 ||| 2 ^ cb 3)) 5 (nxt bt n L t).2.2.2.1), D.2)) := by rw [mOn, if_pos h34_3, pOne, pOn_0 h18_3, pNu_bo hq2] <;> rfl
        exact zs_zret dX13_readOnce_81 rfl (Or.inr rfl) (Or.inl ⟨by rw [er], rfl, g2, w2, (upd rf 1 (nI (nxt bt n L t).2.2.2.1)), rn, fr2, by rw [er]; exact hT2, by rw [er]; exact nxt_W, by rw [er]; exact ⟨(yR_p1 (yR_18 (b := D.1 18 ||| 2 ^ cb 3) hRd.1)), fun i hi => hRd.2.1 i hi, ((h23_2.trans h23_1).trans (show nI (hdM (D.1 18 ||| 2 ^ cb k)) = nI (hdM (D.1 18 ||| 2 ^ cb 3)) from by rw [h34_3]))⟩, rfl⟩)
      · refine zs_K (K' := [(mo, .inr (11, fMo e (mFa g1 (tNu (nxt bt n L t) 10 99) (nxt bt n L t)) w1)), ((e 1), .inl (0, 740, .inl (nF bt))), ((e 15), .inl (0, 200, .inl rf)), ((e 19), .inl (2, 12, .inr (.inl rn)))]) [1, 2, 3, 0] rfl (by decide) ?_
        have e1 : (mOn bt n L k t tk D).1 = (tNu (nxt bt n L t) 10 99) ∧ (mOn bt n L k t tk D).2.1 = (nxt bt n L t) := by rw [mOn, if_pos h34_3, pOne, pOn_0 h18_3, pNu_bn hq2]; exact ⟨rfl, rfl⟩
        exact zs_zret dX13_readOnce_81 rfl (Or.inl rfl) (Or.inr ⟨by rw [e1.1]; exact hq2, rfl, mFa g1 (tNu (nxt bt n L t) 10 99) (nxt bt n L t), w1, rf, rn, mFr_fa fr1 (by decide) (by decide), by rw [e1.1]; rfl, by rw [e1.2]; rfl, rfl⟩)
    by_cases h34_4 : k = 4
    · refine zs_as (y := nI 4) (congrArg nI h34_4) ?_
      refine zs_tableIn (off := 48) (tgt := 82) dX13_readOnce_34 (by decide) (by decide) rfl (by decide) ?_
      have h18_4 : D.1 18 &&& 2 ^ cb 4 = 0 := by rw [← h34_4]; exact h18
      refine zs_aload_n dX13_readOnce_82 rfl rfl ?_
      refine zs_iconst (v := nI 2) dX13_readOnce_83 (by decide) ?_
      refine zs_iconst (v := nI 1) dX13_readOnce_84 (by decide) ?_
      refine zs_bipush (v := nI 30) dX13_readOnce_85 (by decide) ?_
      refine zs_callV (M := mX13_readInto) (As := [.int (nI 2), .int (nI 1), .int (nI 30)]) (st := []) (Kc := [(mo, .inr (11, fMo e g1 w1)), ((e 1), .inl (0, 740, .inl (nF bt))), ((e 15), .inl (0, 200, .inl rf))]) (Kr := [((e 19), .inl (2, 12, .inr (.inl rn)))]) [0, 1, 2] [3] 0 dX13_readOnce_87 zl_RX13_261 kX13_readInto rfl rfl rfl rfl rfl (by decide) rfl rfl (show dd - 1 + 1 ≤ dd by omega) (Nat.zero_le _) (Nat.zero_le _) (Nat.le_of_ble_eq_true rfl) (s_mReadInto l (dd - 1) mo e g1 w1 n L bt (nxt bt n L t) rf 2 1 30 (by omega) hn hL hbt h3_1 h4_1 hT1 (nxt_W (b := bt) (n := n) (L := L) (τ := t)) hO_1 (by omega) (by omega) (by omega)) (fun r K1 hr => ?_)
      rcases hr with ⟨hq2, rfl, g2, w2, hfr2, hT2, rfl⟩ | ⟨hq2, rfl, rfl⟩
      · refine zs_K (K' := [(mo, .inr (11, fMo e g2 w2)), ((e 1), .inl (0, 740, .inl (nF bt))), ((e 15), .inl (0, 200, .inl (upd rf 2 (nI (nxt bt n L t).2.2.2.1)))), ((e 19), .inl (2, 12, .inr (.inl rn)))]) [1, 2, 3, 0] rfl (by decide) ?_
        have fr2 : mFr [5, 6, 7, 8, 9, 13, 23] g g2 := mFr_t (fr1 : mFr [5, 6, 7, 8, 9, 13, 23] g g1) hfr2 (by decide) (by decide)
        have h3_2 : g2 3 = nI n := (hfr2 3 (by decide)).trans h3_1
        have h4_2 : g2 4 = nI L := (hfr2 4 (by decide)).trans h4_1
        have h23_2 : g2 23 = g1 23 := hfr2 23 (by decide)
        have hO_2 := nxt_OK (L := L) (τ := (nxt bt n L t)) hbt hn
        have h14_2 := hO_2.1
        have hkd_2 := mKd_4 (n := n) (L := L) hO_2.1
        refine zs_if_eq (tgt := 108) dX13_readOnce_90 (by decide) (fun c_2 => (by first | exact absurd c_2 (by decide) | exact absurd (by decide) c_2 : False).elim) (fun c_2 => ?_)
        refine zs_aload_n dX13_readOnce_93 rfl rfl ?_
        refine zs_iconst (v := nI 3) dX13_readOnce_94 (by decide) ?_
        refine zs_iconst (v := nI 1) dX13_readOnce_95 (by decide) ?_
        refine zs_bipush (v := nI 20) dX13_readOnce_96 (by decide) ?_
        refine zs_callV (M := mX13_readInto) (As := [.int (nI 3), .int (nI 1), .int (nI 20)]) (st := []) (Kc := [(mo, .inr (11, fMo e g2 w2)), ((e 1), .inl (0, 740, .inl (nF bt))), ((e 15), .inl (0, 200, .inl (upd rf 2 (nI (nxt bt n L t).2.2.2.1))))]) (Kr := [((e 19), .inl (2, 12, .inr (.inl rn)))]) [0, 1, 2] [3] 0 dX13_readOnce_98 zl_RX13_261 kX13_readInto rfl rfl rfl rfl rfl (by decide) rfl rfl (show dd - 1 + 1 ≤ dd by omega) (Nat.zero_le _) (Nat.zero_le _) (Nat.le_of_ble_eq_true rfl) (s_mReadInto l (dd - 1) mo e g2 w2 n L bt (nxt bt n L (nxt bt n L t)) (upd rf 2 (nI (nxt bt n L t).2.2.2.1)) 3 1 20 (by omega) hn hL hbt h3_2 h4_2 hT2 (nxt_W (b := bt) (n := n) (L := L) (τ := (nxt bt n L t))) hO_2 (by omega) (by omega) (by omega)) (fun r K1 hr => ?_)
        rcases hr with ⟨hq3, rfl, g3, w3, hfr3, hT3, rfl⟩ | ⟨hq3, rfl, rfl⟩
        · refine zs_K (K' := [(mo, .inr (11, fMo e g3 w3)), ((e 1), .inl (0, 740, .inl (nF bt))), ((e 15), .inl (0, 200, .inl (upd (upd rf 2 (nI (nxt bt n L t).2.2.2.1)) 3 (nI (nxt bt n L (nxt bt n L t)).2.2.2.1)))), ((e 19), .inl (2, 12, .inr (.inl rn)))]) [1, 2, 3, 0] rfl (by decide) ?_
          have fr3 : mFr [5, 6, 7, 8, 9, 13, 23] g g3 := mFr_t (fr2 : mFr [5, 6, 7, 8, 9, 13, 23] g g2) hfr3 (by decide) (by decide)
          have h3_3 : g3 3 = nI n := (hfr3 3 (by decide)).trans h3_2
          have h4_3 : g3 4 = nI L := (hfr3 4 (by decide)).trans h4_2
          have h23_3 : g3 23 = g2 23 := hfr3 23 (by decide)
          have hO_3 := nxt_OK (L := L) (τ := (nxt bt n L (nxt bt n L t))) hbt hn
          have h14_3 := hO_3.1
          have hkd_3 := mKd_4 (n := n) (L := L) hO_3.1
          refine zs_if_eq (tgt := 108) dX13_readOnce_101 (by decide) (fun c_3 => (by first | exact absurd c_3 (by decide) | exact absurd (by decide) c_3 : False).elim) (fun c_3 => ?_)
          refine zs_iconst (v := nI 1) dX13_readOnce_104 (by decide) ?_
          refine zs_goto (tgt := 109) dX13_readOnce_105 (by decide) ?_
          have er : (mOn bt n L k t tk D) = (0, (nxt bt n L (nxt bt n L (nxt bt n L t))), (nxt bt n L (nxt bt n L t)).2.2.2.1, ((un (un (un D.1 18 (D.1 18 ||| 2 ^ cb 4)) 6 (nxt bt n L t).2.2.2.1) 7 (nxt bt n L (nxt bt n L t)).2.2.2.1), D.2)) := by rw [mOn, if_neg h34_3, if_pos h34_4, pOn_0 h18_4, pPails, pNu_bo hq2, pNu_bo hq3] <;> rfl
          exact zs_zret dX13_readOnce_109 rfl (Or.inr rfl) (Or.inl ⟨by rw [er], rfl, g3, w3, (upd (upd rf 2 (nI (nxt bt n L t).2.2.2.1)) 3 (nI (nxt bt n L (nxt bt n L t)).2.2.2.1)), rn, fr3, by rw [er]; exact hT3, by rw [er]; exact nxt_W, by rw [er]; exact ⟨(yR_p3 (yR_p2 (yR_18 (b := D.1 18 ||| 2 ^ cb 4) hRd.1))), fun i hi => hRd.2.1 i hi, ((h23_3.trans (h23_2.trans h23_1)).trans (show nI (hdM (D.1 18 ||| 2 ^ cb k)) = nI (hdM (D.1 18 ||| 2 ^ cb 4)) from by rw [h34_4]))⟩, rfl⟩)
        · refine zs_K (K' := [(mo, .inr (11, fMo e (mFa g2 (tNu (nxt bt n L (nxt bt n L t)) 1 20) (nxt bt n L (nxt bt n L t))) w2)), ((e 1), .inl (0, 740, .inl (nF bt))), ((e 15), .inl (0, 200, .inl (upd rf 2 (nI (nxt bt n L t).2.2.2.1)))), ((e 19), .inl (2, 12, .inr (.inl rn)))]) [1, 2, 3, 0] rfl (by decide) ?_
          refine zs_if_eq (tgt := 108) dX13_readOnce_101 (by decide) (fun c_4 => ?_) (fun c_4 => (by first | exact absurd c_4 (by decide) | exact absurd (by decide) c_4 : False).elim)
          refine zs_iconst (v := nI 0) dX13_readOnce_108 (by decide) ?_
          have e1 : (mOn bt n L k t tk D).1 = (tNu (nxt bt n L (nxt bt n L t)) 1 20) ∧ (mOn bt n L k t tk D).2.1 = (nxt bt n L (nxt bt n L t)) := by rw [mOn, if_neg h34_3, if_pos h34_4, pOn_0 h18_4, pPails, pNu_bo hq2, pNu_bn hq3]; exact ⟨rfl, rfl⟩
          exact zs_zret dX13_readOnce_109 rfl (Or.inl rfl) (Or.inr ⟨by rw [e1.1]; exact hq3, rfl, mFa g2 (tNu (nxt bt n L (nxt bt n L t)) 1 20) (nxt bt n L (nxt bt n L t)), w2, (upd rf 2 (nI (nxt bt n L t).2.2.2.1)), rn, mFr_fa fr2 (by decide) (by decide), by rw [e1.1]; rfl, by rw [e1.2]; rfl, rfl⟩)
      · refine zs_K (K' := [(mo, .inr (11, fMo e (mFa g1 (tNu (nxt bt n L t) 1 30) (nxt bt n L t)) w1)), ((e 1), .inl (0, 740, .inl (nF bt))), ((e 15), .inl (0, 200, .inl rf)), ((e 19), .inl (2, 12, .inr (.inl rn)))]) [1, 2, 3, 0] rfl (by decide) ?_
        refine zs_if_eq (tgt := 108) dX13_readOnce_90 (by decide) (fun c_5 => ?_) (fun c_5 => (by first | exact absurd c_5 (by decide) | exact absurd (by decide) c_5 : False).elim)
        refine zs_iconst (v := nI 0) dX13_readOnce_108 (by decide) ?_
        have e1 : (mOn bt n L k t tk D).1 = (tNu (nxt bt n L t) 1 30) ∧ (mOn bt n L k t tk D).2.1 = (nxt bt n L t) := by rw [mOn, if_neg h34_3, if_pos h34_4, pOn_0 h18_4, pPails, pNu_bn hq2]; exact ⟨rfl, rfl⟩
        exact zs_zret dX13_readOnce_109 rfl (Or.inl rfl) (Or.inr ⟨by rw [e1.1]; exact hq2, rfl, mFa g1 (tNu (nxt bt n L t) 1 30) (nxt bt n L t), w1, rf, rn, mFr_fa fr1 (by decide) (by decide), by rw [e1.1]; rfl, by rw [e1.2]; rfl, rfl⟩)
    by_cases h34_5 : k = 5
    · refine zs_as (y := nI 5) (congrArg nI h34_5) ?_
      refine zs_tableIn (off := 76) (tgt := 110) dX13_readOnce_34 (by decide) (by decide) rfl (by decide) ?_
      have h18_5 : D.1 18 &&& 2 ^ cb 5 = 0 := by rw [← h34_5]; exact h18
      refine zs_aload_n dX13_readOnce_110 rfl rfl ?_
      refine zs_iconst (v := nI 4) dX13_readOnce_111 (by decide) ?_
      refine zs_iconst (v := nI 1) dX13_readOnce_112 (by decide) ?_
      refine zs_bipush (v := nI 30) dX13_readOnce_113 (by decide) ?_
      refine zs_callV (M := mX13_readInto) (As := [.int (nI 4), .int (nI 1), .int (nI 30)]) (st := []) (Kc := [(mo, .inr (11, fMo e g1 w1)), ((e 1), .inl (0, 740, .inl (nF bt))), ((e 15), .inl (0, 200, .inl rf))]) (Kr := [((e 19), .inl (2, 12, .inr (.inl rn)))]) [0, 1, 2] [3] 0 dX13_readOnce_115 zl_RX13_261 kX13_readInto rfl rfl rfl rfl rfl (by decide) rfl rfl (show dd - 1 + 1 ≤ dd by omega) (Nat.zero_le _) (Nat.zero_le _) (Nat.le_of_ble_eq_true rfl) (s_mReadInto l (dd - 1) mo e g1 w1 n L bt (nxt bt n L t) rf 4 1 30 (by omega) hn hL hbt h3_1 h4_1 hT1 (nxt_W (b := bt) (n := n) (L := L) (τ := t)) hO_1 (by omega) (by omega) (by omega)) (fun r K1 hr => ?_)
      rcases hr with ⟨hq2, rfl, g2, w2, hfr2, hT2, rfl⟩ | ⟨hq2, rfl, rfl⟩
      · refine zs_K (K' := [(mo, .inr (11, fMo e g2 w2)), ((e 1), .inl (0, 740, .inl (nF bt))), ((e 15), .inl (0, 200, .inl (upd rf 4 (nI (nxt bt n L t).2.2.2.1)))), ((e 19), .inl (2, 12, .inr (.inl rn)))]) [1, 2, 3, 0] rfl (by decide) ?_
        have fr2 : mFr [5, 6, 7, 8, 9, 13, 23] g g2 := mFr_t (fr1 : mFr [5, 6, 7, 8, 9, 13, 23] g g1) hfr2 (by decide) (by decide)
        have h3_2 : g2 3 = nI n := (hfr2 3 (by decide)).trans h3_1
        have h4_2 : g2 4 = nI L := (hfr2 4 (by decide)).trans h4_1
        have h23_2 : g2 23 = g1 23 := hfr2 23 (by decide)
        have hO_2 := nxt_OK (L := L) (τ := (nxt bt n L t)) hbt hn
        have h14_2 := hO_2.1
        have hkd_2 := mKd_4 (n := n) (L := L) hO_2.1
        refine zs_if_eq (tgt := 137) dX13_readOnce_118 (by decide) (fun c_6 => (by first | exact absurd c_6 (by decide) | exact absurd (by decide) c_6 : False).elim) (fun c_6 => ?_)
        refine zs_aload_n dX13_readOnce_121 rfl rfl ?_
        refine zs_iconst (v := nI 5) dX13_readOnce_122 (by decide) ?_
        refine zs_iconst (v := nI 0) dX13_readOnce_123 (by decide) ?_
        refine zs_sipush (v := nI 9999) dX13_readOnce_124 (by decide) ?_
        refine zs_callV (M := mX13_readInto) (As := [.int (nI 5), .int (nI 0), .int (nI 9999)]) (st := []) (Kc := [(mo, .inr (11, fMo e g2 w2)), ((e 1), .inl (0, 740, .inl (nF bt))), ((e 15), .inl (0, 200, .inl (upd rf 4 (nI (nxt bt n L t).2.2.2.1))))]) (Kr := [((e 19), .inl (2, 12, .inr (.inl rn)))]) [0, 1, 2] [3] 0 dX13_readOnce_127 zl_RX13_261 kX13_readInto rfl rfl rfl rfl rfl (by decide) rfl rfl (show dd - 1 + 1 ≤ dd by omega) (Nat.zero_le _) (Nat.zero_le _) (Nat.le_of_ble_eq_true rfl) (s_mReadInto l (dd - 1) mo e g2 w2 n L bt (nxt bt n L (nxt bt n L t)) (upd rf 4 (nI (nxt bt n L t).2.2.2.1)) 5 0 9999 (by omega) hn hL hbt h3_2 h4_2 hT2 (nxt_W (b := bt) (n := n) (L := L) (τ := (nxt bt n L t))) hO_2 (by omega) (by omega) (by omega)) (fun r K1 hr => ?_)
        rcases hr with ⟨hq3, rfl, g3, w3, hfr3, hT3, rfl⟩ | ⟨hq3, rfl, rfl⟩
        · refine zs_K (K' := [(mo, .inr (11, fMo e g3 w3)), ((e 1), .inl (0, 740, .inl (nF bt))), ((e 15), .inl (0, 200, .inl (upd (upd rf 4 (nI (nxt bt n L t).2.2.2.1)) 5 (nI (nxt bt n L (nxt bt n L t)).2.2.2.1)))), ((e 19), .inl (2, 12, .inr (.inl rn)))]) [1, 2, 3, 0] rfl (by decide) ?_
          have fr3 : mFr [5, 6, 7, 8, 9, 13, 23] g g3 := mFr_t (fr2 : mFr [5, 6, 7, 8, 9, 13, 23] g g2) hfr3 (by decide) (by decide)
          have h3_3 : g3 3 = nI n := (hfr3 3 (by decide)).trans h3_2
          have h4_3 : g3 4 = nI L := (hfr3 4 (by decide)).trans h4_2
          have h23_3 : g3 23 = g2 23 := hfr3 23 (by decide)
          have hO_3 := nxt_OK (L := L) (τ := (nxt bt n L (nxt bt n L t))) hbt hn
          have h14_3 := hO_3.1
          have hkd_3 := mKd_4 (n := n) (L := L) hO_3.1
          refine zs_if_eq (tgt := 137) dX13_readOnce_130 (by decide) (fun c_7 => (by first | exact absurd c_7 (by decide) | exact absurd (by decide) c_7 : False).elim) (fun c_7 => ?_)
          refine zs_iconst (v := nI 1) dX13_readOnce_133 (by decide) ?_
          refine zs_goto (tgt := 138) dX13_readOnce_134 (by decide) ?_
          have er : (mOn bt n L k t tk D) = (0, (nxt bt n L (nxt bt n L (nxt bt n L t))), (nxt bt n L (nxt bt n L t)).2.2.2.1, ((un (un (un D.1 18 (D.1 18 ||| 2 ^ cb 5)) 8 (nxt bt n L t).2.2.2.1) 9 (nxt bt n L (nxt bt n L t)).2.2.2.1), D.2)) := by rw [mOn, if_neg h34_3, if_neg h34_4, if_pos h34_5, pOn_0 h18_5, pWell, pNu_bo hq2, pNu_bo hq3] <;> rfl
          exact zs_zret dX13_readOnce_138 rfl (Or.inr rfl) (Or.inl ⟨by rw [er], rfl, g3, w3, (upd (upd rf 4 (nI (nxt bt n L t).2.2.2.1)) 5 (nI (nxt bt n L (nxt bt n L t)).2.2.2.1)), rn, fr3, by rw [er]; exact hT3, by rw [er]; exact nxt_W, by rw [er]; exact ⟨(yR_p5 (yR_p4 (yR_18 (b := D.1 18 ||| 2 ^ cb 5) hRd.1))), fun i hi => hRd.2.1 i hi, ((h23_3.trans (h23_2.trans h23_1)).trans (show nI (hdM (D.1 18 ||| 2 ^ cb k)) = nI (hdM (D.1 18 ||| 2 ^ cb 5)) from by rw [h34_5]))⟩, rfl⟩)
        · refine zs_K (K' := [(mo, .inr (11, fMo e (mFa g2 (tNu (nxt bt n L (nxt bt n L t)) 0 9999) (nxt bt n L (nxt bt n L t))) w2)), ((e 1), .inl (0, 740, .inl (nF bt))), ((e 15), .inl (0, 200, .inl (upd rf 4 (nI (nxt bt n L t).2.2.2.1)))), ((e 19), .inl (2, 12, .inr (.inl rn)))]) [1, 2, 3, 0] rfl (by decide) ?_
          refine zs_if_eq (tgt := 137) dX13_readOnce_130 (by decide) (fun c_8 => ?_) (fun c_8 => (by first | exact absurd c_8 (by decide) | exact absurd (by decide) c_8 : False).elim)
          refine zs_iconst (v := nI 0) dX13_readOnce_137 (by decide) ?_
          have e1 : (mOn bt n L k t tk D).1 = (tNu (nxt bt n L (nxt bt n L t)) 0 9999) ∧ (mOn bt n L k t tk D).2.1 = (nxt bt n L (nxt bt n L t)) := by rw [mOn, if_neg h34_3, if_neg h34_4, if_pos h34_5, pOn_0 h18_5, pWell, pNu_bo hq2, pNu_bn hq3]; exact ⟨rfl, rfl⟩
          exact zs_zret dX13_readOnce_138 rfl (Or.inl rfl) (Or.inr ⟨by rw [e1.1]; exact hq3, rfl, mFa g2 (tNu (nxt bt n L (nxt bt n L t)) 0 9999) (nxt bt n L (nxt bt n L t)), w2, (upd rf 4 (nI (nxt bt n L t).2.2.2.1)), rn, mFr_fa fr2 (by decide) (by decide), by rw [e1.1]; rfl, by rw [e1.2]; rfl, rfl⟩)
      · refine zs_K (K' := [(mo, .inr (11, fMo e (mFa g1 (tNu (nxt bt n L t) 1 30) (nxt bt n L t)) w1)), ((e 1), .inl (0, 740, .inl (nF bt))), ((e 15), .inl (0, 200, .inl rf)), ((e 19), .inl (2, 12, .inr (.inl rn)))]) [1, 2, 3, 0] rfl (by decide) ?_
        refine zs_if_eq (tgt := 137) dX13_readOnce_118 (by decide) (fun c_9 => ?_) (fun c_9 => (by first | exact absurd c_9 (by decide) | exact absurd (by decide) c_9 : False).elim)
        refine zs_iconst (v := nI 0) dX13_readOnce_137 (by decide) ?_
        have e1 : (mOn bt n L k t tk D).1 = (tNu (nxt bt n L t) 1 30) ∧ (mOn bt n L k t tk D).2.1 = (nxt bt n L t) := by rw [mOn, if_neg h34_3, if_neg h34_4, if_pos h34_5, pOn_0 h18_5, pWell, pNu_bn hq2]; exact ⟨rfl, rfl⟩
        exact zs_zret dX13_readOnce_138 rfl (Or.inl rfl) (Or.inr ⟨by rw [e1.1]; exact hq2, rfl, mFa g1 (tNu (nxt bt n L t) 1 30) (nxt bt n L t), w1, rf, rn, mFr_fa fr1 (by decide) (by decide), by rw [e1.1]; rfl, by rw [e1.2]; rfl, rfl⟩)
    by_cases h34_6 : k = 6
    · refine zs_as (y := nI 6) (congrArg nI h34_6) ?_
      refine zs_tableIn (off := 105) (tgt := 139) dX13_readOnce_34 (by decide) (by decide) rfl (by decide) ?_
      have h18_6 : D.1 18 &&& 2 ^ cb 6 = 0 := by rw [← h34_6]; exact h18
      refine zs_aload_n dX13_readOnce_139 rfl rfl ?_
      refine zs_bipush (v := nI 6) dX13_readOnce_140 (by decide) ?_
      refine zs_iconst (v := nI 0) dX13_readOnce_142 (by decide) ?_
      refine zs_bipush (v := nI 99) dX13_readOnce_143 (by decide) ?_
      refine zs_callV (M := mX13_readInto) (As := [.int (nI 6), .int (nI 0), .int (nI 99)]) (st := []) (Kc := [(mo, .inr (11, fMo e g1 w1)), ((e 1), .inl (0, 740, .inl (nF bt))), ((e 15), .inl (0, 200, .inl rf))]) (Kr := [((e 19), .inl (2, 12, .inr (.inl rn)))]) [0, 1, 2] [3] 0 dX13_readOnce_145 zl_RX13_261 kX13_readInto rfl rfl rfl rfl rfl (by decide) rfl rfl (show dd - 1 + 1 ≤ dd by omega) (Nat.zero_le _) (Nat.zero_le _) (Nat.le_of_ble_eq_true rfl) (s_mReadInto l (dd - 1) mo e g1 w1 n L bt (nxt bt n L t) rf 6 0 99 (by omega) hn hL hbt h3_1 h4_1 hT1 (nxt_W (b := bt) (n := n) (L := L) (τ := t)) hO_1 (by omega) (by omega) (by omega)) (fun r K1 hr => ?_)
      rcases hr with ⟨hq2, rfl, g2, w2, hfr2, hT2, rfl⟩ | ⟨hq2, rfl, rfl⟩
      · refine zs_K (K' := [(mo, .inr (11, fMo e g2 w2)), ((e 1), .inl (0, 740, .inl (nF bt))), ((e 15), .inl (0, 200, .inl (upd rf 6 (nI (nxt bt n L t).2.2.2.1)))), ((e 19), .inl (2, 12, .inr (.inl rn)))]) [1, 2, 3, 0] rfl (by decide) ?_
        have fr2 : mFr [5, 6, 7, 8, 9, 13, 23] g g2 := mFr_t (fr1 : mFr [5, 6, 7, 8, 9, 13, 23] g g1) hfr2 (by decide) (by decide)
        have h3_2 : g2 3 = nI n := (hfr2 3 (by decide)).trans h3_1
        have h4_2 : g2 4 = nI L := (hfr2 4 (by decide)).trans h4_1
        have h23_2 : g2 23 = g1 23 := hfr2 23 (by decide)
        have hO_2 := nxt_OK (L := L) (τ := (nxt bt n L t)) hbt hn
        have h14_2 := hO_2.1
        have hkd_2 := mKd_4 (n := n) (L := L) hO_2.1
        have er : (mOn bt n L k t tk D) = (0, (nxt bt n L (nxt bt n L t)), (nxt bt n L t).2.2.2.1, ((un (un D.1 18 (D.1 18 ||| 2 ^ cb 6)) 10 (nxt bt n L t).2.2.2.1), D.2)) := by rw [mOn, if_neg h34_3, if_neg h34_4, if_neg h34_5, if_pos h34_6, pOne, pOn_0 h18_6, pNu_bo hq2] <;> rfl
        exact zs_zret dX13_readOnce_148 rfl (Or.inr rfl) (Or.inl ⟨by rw [er], rfl, g2, w2, (upd rf 6 (nI (nxt bt n L t).2.2.2.1)), rn, fr2, by rw [er]; exact hT2, by rw [er]; exact nxt_W, by rw [er]; exact ⟨(yR_p6 (yR_18 (b := D.1 18 ||| 2 ^ cb 6) hRd.1)), fun i hi => hRd.2.1 i hi, ((h23_2.trans h23_1).trans (show nI (hdM (D.1 18 ||| 2 ^ cb k)) = nI (hdM (D.1 18 ||| 2 ^ cb 6)) from by rw [h34_6]))⟩, rfl⟩)
      · refine zs_K (K' := [(mo, .inr (11, fMo e (mFa g1 (tNu (nxt bt n L t) 0 99) (nxt bt n L t)) w1)), ((e 1), .inl (0, 740, .inl (nF bt))), ((e 15), .inl (0, 200, .inl rf)), ((e 19), .inl (2, 12, .inr (.inl rn)))]) [1, 2, 3, 0] rfl (by decide) ?_
        have e1 : (mOn bt n L k t tk D).1 = (tNu (nxt bt n L t) 0 99) ∧ (mOn bt n L k t tk D).2.1 = (nxt bt n L t) := by rw [mOn, if_neg h34_3, if_neg h34_4, if_neg h34_5, if_pos h34_6, pOne, pOn_0 h18_6, pNu_bn hq2]; exact ⟨rfl, rfl⟩
        exact zs_zret dX13_readOnce_148 rfl (Or.inl rfl) (Or.inr ⟨by rw [e1.1]; exact hq2, rfl, mFa g1 (tNu (nxt bt n L t) 0 99) (nxt bt n L t), w1, rf, rn, mFr_fa fr1 (by decide) (by decide), by rw [e1.1]; rfl, by rw [e1.2]; rfl, rfl⟩)
    by_cases h34_7 : k = 7
    · refine zs_as (y := nI 7) (congrArg nI h34_7) ?_
      refine zs_tableIn (off := 115) (tgt := 149) dX13_readOnce_34 (by decide) (by decide) rfl (by decide) ?_
      have h18_7 : D.1 18 &&& 2 ^ cb 7 = 0 := by rw [← h34_7]; exact h18
      refine zs_aload_n dX13_readOnce_149 rfl rfl ?_
      refine zs_bipush (v := nI 7) dX13_readOnce_150 (by decide) ?_
      refine zs_iconst (v := nI 1) dX13_readOnce_152 (by decide) ?_
      refine zs_bipush (v := nI 99) dX13_readOnce_153 (by decide) ?_
      refine zs_callV (M := mX13_readInto) (As := [.int (nI 7), .int (nI 1), .int (nI 99)]) (st := []) (Kc := [(mo, .inr (11, fMo e g1 w1)), ((e 1), .inl (0, 740, .inl (nF bt))), ((e 15), .inl (0, 200, .inl rf))]) (Kr := [((e 19), .inl (2, 12, .inr (.inl rn)))]) [0, 1, 2] [3] 0 dX13_readOnce_155 zl_RX13_261 kX13_readInto rfl rfl rfl rfl rfl (by decide) rfl rfl (show dd - 1 + 1 ≤ dd by omega) (Nat.zero_le _) (Nat.zero_le _) (Nat.le_of_ble_eq_true rfl) (s_mReadInto l (dd - 1) mo e g1 w1 n L bt (nxt bt n L t) rf 7 1 99 (by omega) hn hL hbt h3_1 h4_1 hT1 (nxt_W (b := bt) (n := n) (L := L) (τ := t)) hO_1 (by omega) (by omega) (by omega)) (fun r K1 hr => ?_)
      rcases hr with ⟨hq2, rfl, g2, w2, hfr2, hT2, rfl⟩ | ⟨hq2, rfl, rfl⟩
      · refine zs_K (K' := [(mo, .inr (11, fMo e g2 w2)), ((e 1), .inl (0, 740, .inl (nF bt))), ((e 15), .inl (0, 200, .inl (upd rf 7 (nI (nxt bt n L t).2.2.2.1)))), ((e 19), .inl (2, 12, .inr (.inl rn)))]) [1, 2, 3, 0] rfl (by decide) ?_
        have fr2 : mFr [5, 6, 7, 8, 9, 13, 23] g g2 := mFr_t (fr1 : mFr [5, 6, 7, 8, 9, 13, 23] g g1) hfr2 (by decide) (by decide)
        have h3_2 : g2 3 = nI n := (hfr2 3 (by decide)).trans h3_1
        have h4_2 : g2 4 = nI L := (hfr2 4 (by decide)).trans h4_1
        have h23_2 : g2 23 = g1 23 := hfr2 23 (by decide)
        have hO_2 := nxt_OK (L := L) (τ := (nxt bt n L t)) hbt hn
        have h14_2 := hO_2.1
        have hkd_2 := mKd_4 (n := n) (L := L) hO_2.1
        have er : (mOn bt n L k t tk D) = (0, (nxt bt n L (nxt bt n L t)), (nxt bt n L t).2.2.2.1, ((un (un D.1 18 (D.1 18 ||| 2 ^ cb 7)) 11 (nxt bt n L t).2.2.2.1), D.2)) := by rw [mOn, if_neg h34_3, if_neg h34_4, if_neg h34_5, if_neg h34_6, if_pos h34_7, pOne, pOn_0 h18_7, pNu_bo hq2] <;> rfl
        exact zs_zret dX13_readOnce_158 rfl (Or.inr rfl) (Or.inl ⟨by rw [er], rfl, g2, w2, (upd rf 7 (nI (nxt bt n L t).2.2.2.1)), rn, fr2, by rw [er]; exact hT2, by rw [er]; exact nxt_W, by rw [er]; exact ⟨(yR_p7 (yR_18 (b := D.1 18 ||| 2 ^ cb 7) hRd.1)), fun i hi => hRd.2.1 i hi, ((h23_2.trans h23_1).trans (show nI (hdM (D.1 18 ||| 2 ^ cb k)) = nI (hdM (D.1 18 ||| 2 ^ cb 7)) from by rw [h34_7]))⟩, rfl⟩)
      · refine zs_K (K' := [(mo, .inr (11, fMo e (mFa g1 (tNu (nxt bt n L t) 1 99) (nxt bt n L t)) w1)), ((e 1), .inl (0, 740, .inl (nF bt))), ((e 15), .inl (0, 200, .inl rf)), ((e 19), .inl (2, 12, .inr (.inl rn)))]) [1, 2, 3, 0] rfl (by decide) ?_
        have e1 : (mOn bt n L k t tk D).1 = (tNu (nxt bt n L t) 1 99) ∧ (mOn bt n L k t tk D).2.1 = (nxt bt n L t) := by rw [mOn, if_neg h34_3, if_neg h34_4, if_neg h34_5, if_neg h34_6, if_pos h34_7, pOne, pOn_0 h18_7, pNu_bn hq2]; exact ⟨rfl, rfl⟩
        exact zs_zret dX13_readOnce_158 rfl (Or.inl rfl) (Or.inr ⟨by rw [e1.1]; exact hq2, rfl, mFa g1 (tNu (nxt bt n L t) 1 99) (nxt bt n L t), w1, rf, rn, mFr_fa fr1 (by decide) (by decide), by rw [e1.1]; rfl, by rw [e1.2]; rfl, rfl⟩)
    by_cases h34_8 : k = 8
    · refine zs_as (y := nI 8) (congrArg nI h34_8) ?_
      refine zs_tableIn (off := 125) (tgt := 159) dX13_readOnce_34 (by decide) (by decide) rfl (by decide) ?_
      have h18_8 : D.1 18 &&& 2 ^ cb 8 = 0 := by rw [← h34_8]; exact h18
      refine zs_aload_n dX13_readOnce_159 rfl rfl ?_
      refine zs_bipush (v := nI 8) dX13_readOnce_160 (by decide) ?_
      refine zs_iconst (v := nI 1) dX13_readOnce_162 (by decide) ?_
      refine zs_bipush (v := nI 9) dX13_readOnce_163 (by decide) ?_
      refine zs_callV (M := mX13_readInto) (As := [.int (nI 8), .int (nI 1), .int (nI 9)]) (st := []) (Kc := [(mo, .inr (11, fMo e g1 w1)), ((e 1), .inl (0, 740, .inl (nF bt))), ((e 15), .inl (0, 200, .inl rf))]) (Kr := [((e 19), .inl (2, 12, .inr (.inl rn)))]) [0, 1, 2] [3] 0 dX13_readOnce_165 zl_RX13_261 kX13_readInto rfl rfl rfl rfl rfl (by decide) rfl rfl (show dd - 1 + 1 ≤ dd by omega) (Nat.zero_le _) (Nat.zero_le _) (Nat.le_of_ble_eq_true rfl) (s_mReadInto l (dd - 1) mo e g1 w1 n L bt (nxt bt n L t) rf 8 1 9 (by omega) hn hL hbt h3_1 h4_1 hT1 (nxt_W (b := bt) (n := n) (L := L) (τ := t)) hO_1 (by omega) (by omega) (by omega)) (fun r K1 hr => ?_)
      rcases hr with ⟨hq2, rfl, g2, w2, hfr2, hT2, rfl⟩ | ⟨hq2, rfl, rfl⟩
      · refine zs_K (K' := [(mo, .inr (11, fMo e g2 w2)), ((e 1), .inl (0, 740, .inl (nF bt))), ((e 15), .inl (0, 200, .inl (upd rf 8 (nI (nxt bt n L t).2.2.2.1)))), ((e 19), .inl (2, 12, .inr (.inl rn)))]) [1, 2, 3, 0] rfl (by decide) ?_
        have fr2 : mFr [5, 6, 7, 8, 9, 13, 23] g g2 := mFr_t (fr1 : mFr [5, 6, 7, 8, 9, 13, 23] g g1) hfr2 (by decide) (by decide)
        have h3_2 : g2 3 = nI n := (hfr2 3 (by decide)).trans h3_1
        have h4_2 : g2 4 = nI L := (hfr2 4 (by decide)).trans h4_1
        have h23_2 : g2 23 = g1 23 := hfr2 23 (by decide)
        have hO_2 := nxt_OK (L := L) (τ := (nxt bt n L t)) hbt hn
        have h14_2 := hO_2.1
        have hkd_2 := mKd_4 (n := n) (L := L) hO_2.1
        have er : (mOn bt n L k t tk D) = (0, (nxt bt n L (nxt bt n L t)), (nxt bt n L t).2.2.2.1, ((un (un D.1 18 (D.1 18 ||| 2 ^ cb 8)) 12 (nxt bt n L t).2.2.2.1), D.2)) := by rw [mOn, if_neg h34_3, if_neg h34_4, if_neg h34_5, if_neg h34_6, if_neg h34_7, if_pos h34_8, pOne, pOn_0 h18_8, pNu_bo hq2] <;> rfl
        exact zs_zret dX13_readOnce_168 rfl (Or.inr rfl) (Or.inl ⟨by rw [er], rfl, g2, w2, (upd rf 8 (nI (nxt bt n L t).2.2.2.1)), rn, fr2, by rw [er]; exact hT2, by rw [er]; exact nxt_W, by rw [er]; exact ⟨(yR_p8 (yR_18 (b := D.1 18 ||| 2 ^ cb 8) hRd.1)), fun i hi => hRd.2.1 i hi, ((h23_2.trans h23_1).trans (show nI (hdM (D.1 18 ||| 2 ^ cb k)) = nI (hdM (D.1 18 ||| 2 ^ cb 8)) from by rw [h34_8]))⟩, rfl⟩)
      · refine zs_K (K' := [(mo, .inr (11, fMo e (mFa g1 (tNu (nxt bt n L t) 1 9) (nxt bt n L t)) w1)), ((e 1), .inl (0, 740, .inl (nF bt))), ((e 15), .inl (0, 200, .inl rf)), ((e 19), .inl (2, 12, .inr (.inl rn)))]) [1, 2, 3, 0] rfl (by decide) ?_
        have e1 : (mOn bt n L k t tk D).1 = (tNu (nxt bt n L t) 1 9) ∧ (mOn bt n L k t tk D).2.1 = (nxt bt n L t) := by rw [mOn, if_neg h34_3, if_neg h34_4, if_neg h34_5, if_neg h34_6, if_neg h34_7, if_pos h34_8, pOne, pOn_0 h18_8, pNu_bn hq2]; exact ⟨rfl, rfl⟩
        exact zs_zret dX13_readOnce_168 rfl (Or.inl rfl) (Or.inr ⟨by rw [e1.1]; exact hq2, rfl, mFa g1 (tNu (nxt bt n L t) 1 9) (nxt bt n L t), w1, rf, rn, mFr_fa fr1 (by decide) (by decide), by rw [e1.1]; rfl, by rw [e1.2]; rfl, rfl⟩)
    refine zs_tableOut (tgt := 169) dX13_readOnce_34 (by rw [nI_t (by omega)]; omega) (by decide) ?_
    have h9 : k = 9 := by omega
    have h18_9 : D.1 18 &&& 2 ^ cb 9 = 0 := by rw [← h9]; exact h18
    refine zs_iconst (v := nI 0) dX13_readOnce_169 (by decide) ?_
    refine zs_istore_n (lv' := [(2, .int (nI 0)), (0, .ref mo), (1, .int (nI k))]) dX13_readOnce_170 (Nat.le_of_ble_eq_true rfl) rfl ?_
    refine zs_iload_n dX13_readOnce_171 rfl ?_
    refine zs_iconst (v := nI 4) dX13_readOnce_172 (by decide) ?_
    refine zs_icmp_ge (tgt := 193) dX13_readOnce_173 (by decide) (fun c_10 => (by first | exact absurd c_10 (by decide) | exact absurd (by decide) c_10 : False).elim) (fun c_10 => ?_)
    refine zs_aload_n dX13_readOnce_176 rfl rfl ?_
    refine zs_bipush (v := nI 10) dX13_readOnce_177 (by decide) ?_
    refine zs_iload_n dX13_readOnce_179 rfl ?_
    refine zs_iadd dX13_readOnce_180 ?_
    refine zs_as (y := nI (10 + 0)) (nI_add _ _) ?_
    refine zs_callV (M := mX13_isWord) (As := [.int (nI (10 + 0))]) (st := []) (Kc := [(mo, .inr (11, fMo e g1 w1))]) (Kr := [((e 1), .inl (0, 740, .inl (nF bt))), ((e 15), .inl (0, 200, .inl rf)), ((e 19), .inl (2, 12, .inr (.inl rn)))]) [0] [1, 2, 3] 0 dX13_readOnce_181 zl_RX13_264 kX13_isWord rfl rfl rfl rfl rfl (by decide) rfl rfl (show dd - 1 + 1 ≤ dd by omega) (Nat.zero_le _) (Nat.zero_le _) (Nat.le_of_ble_eq_true rfl) (s_mIsWord l (dd - 1) mo e g1 w1 n L (nxt bt n L t) (10 + 0) (by omega) (by omega) hT1 (nxt_W (b := bt) (n := n) (L := L) (τ := t)) hO_1) (fun r K1 hr => ?_)
    obtain ⟨rfl, rfl⟩ := hr
    refine zs_K (K' := [(mo, .inr (11, fMo e g1 w1)), ((e 1), .inl (0, 740, .inl (nF bt))), ((e 15), .inl (0, 200, .inl rf)), ((e 19), .inl (2, 12, .inr (.inl rn)))]) [3, 0, 1, 2] rfl (by decide) ?_
    refine zs_if_ne (tgt := 193) dX13_readOnce_184 (by decide) (fun c_11 => ?_) (fun c_11 => ?_)
    · have hwd := of_decide_eq_true (bI_t c_11)
      refine zs_iload_n dX13_readOnce_193 rfl ?_
      refine zs_iconst (v := nI 4) dX13_readOnce_194 (by decide) ?_
      refine zs_icmp_ne (tgt := 204) dX13_readOnce_195 (by decide) (fun c_12 => ?_) (fun c_12 => (by first | exact absurd c_12 (by decide) | exact absurd (by decide) c_12 : False).elim)
      refine zs_aload_n dX13_readOnce_204 rfl rfl ?_
      refine zs_get 0 dX13_readOnce_205 zf_RX13_16 rfl (v := .ref (e 15)) rfl ?_
      refine zs_bipush (v := nI 11) dX13_readOnce_208 (by decide) ?_
      refine zs_iload_n dX13_readOnce_210 rfl ?_
      refine zs_iast 2 dX13_readOnce_211 rfl (vp_in_nI (by omega) (by omega)) ?_
      rw [nI_c (n := 11) (by omega)]
      show zS _ _ _ _ _ _ [(mo, .inr (11, fMo e g1 w1)), ((e 1), .inl (0, 740, .inl (nF bt))), ((e 15), .inl (0, 200, .inl (upd rf 11 (nI 0)))), ((e 19), .inl (2, 12, .inr (.inl rn)))]
      refine zs_aload_n dX13_readOnce_212 rfl rfl ?_
      refine zs_callV (M := mX13_go) (As := []) (st := []) (Kc := [(mo, .inr (11, fMo e g1 w1)), ((e 1), .inl (0, 740, .inl (nF bt)))]) (Kr := [((e 15), .inl (0, 200, .inl (upd rf 11 (nI 0)))), ((e 19), .inl (2, 12, .inr (.inl rn)))]) [0, 1] [2, 3] 0 dX13_readOnce_213 zl_RX13_226 kX13_go rfl rfl rfl rfl rfl (by decide) rfl rfl (show dd - 1 + 1 ≤ dd by omega) (Nat.zero_le _) (Nat.zero_le _) (Nat.le_of_ble_eq_true rfl) (s_mGoT l (dd - 1) mo e g1 w1 n L bt (nxt bt n L t) (by omega) hn hL hbt h3_1 h4_1 hT1 (nxt_W (b := bt) (n := n) (L := L) (τ := t)) (show ¬ (nxt bt n L t).1 = 0 from fun hz => by have := hO_1.2.2.2.2.2.2.2.2 _ hwd; omega)) (fun r K1 hr => ?_)
      obtain ⟨rfl, g2, w2, hfr2, hT2, rfl⟩ := hr
      refine zs_K (K' := [(mo, .inr (11, fMo e g2 w2)), ((e 1), .inl (0, 740, .inl (nF bt))), ((e 15), .inl (0, 200, .inl (upd rf 11 (nI 0)))), ((e 19), .inl (2, 12, .inr (.inl rn)))]) [2, 3, 0, 1] rfl (by decide) ?_
      have fr2 : mFr [5, 6, 7, 8, 9, 13, 23] g g2 := mFr_t (fr1 : mFr [5, 6, 7, 8, 9, 13, 23] g g1) hfr2 (by decide) (by decide)
      have h3_2 : g2 3 = nI n := (hfr2 3 (by decide)).trans h3_1
      have h4_2 : g2 4 = nI L := (hfr2 4 (by decide)).trans h4_1
      have h23_2 : g2 23 = g1 23 := hfr2 23 (by decide)
      have hO_2 := nxt_OK (L := L) (τ := (nxt bt n L t)) hbt hn
      have h14_2 := hO_2.1
      have hkd_2 := mKd_4 (n := n) (L := L) hO_2.1
      refine zs_iconst (v := nI 1) dX13_readOnce_216 (by decide) ?_
      have er : (mOn bt n L k t tk D) = (0, (nxt bt n L (nxt bt n L t)), tk, ((un D.1 18 (D.1 18 ||| 2 ^ cb 9)), 0, D.2.2)) := by rw [mOn, if_neg h34_3, if_neg h34_4, if_neg h34_5, if_neg h34_6, if_neg h34_7, if_neg h34_8, pOn_0 h18_9, pWi, if_pos (show (nxt bt n L t).2.2.2.2 = some 10 from of_decide_eq_true (bI_t c_11))] <;> rfl
      exact zs_zret dX13_readOnce_217 rfl (Or.inr rfl) (Or.inl ⟨by rw [er], rfl, g2, w2, (upd rf 11 (nI 0)), rn, fr2, by rw [er]; exact hT2, by rw [er]; exact nxt_W, by rw [er]; exact ⟨(yR_p11 (yR_18 (b := D.1 18 ||| 2 ^ cb 9) hRd.1)), fun i hi => hRd.2.1 i hi, ((h23_2.trans h23_1).trans (show nI (hdM (D.1 18 ||| 2 ^ cb k)) = nI (hdM (D.1 18 ||| 2 ^ cb 9)) from by rw [h9]))⟩, rfl⟩)
    · refine zs_iinc (v := (nI 1)) (lv' := [(2, .int (nI 1)), (0, .ref mo), (1, .int (nI k))]) dX13_readOnce_187 rfl (nI_add _ 1) (Nat.le_of_ble_eq_true rfl) rfl ?_
      refine zs_goto (tgt := 171) dX13_readOnce_190 (by decide) ?_
      refine zs_iload_n dX13_readOnce_171 rfl ?_
      refine zs_iconst (v := nI 4) dX13_readOnce_172 (by decide) ?_
      refine zs_icmp_ge (tgt := 193) dX13_readOnce_173 (by decide) (fun c_13 => (by first | exact absurd c_13 (by decide) | exact absurd (by decide) c_13 : False).elim) (fun c_13 => ?_)
      refine zs_aload_n dX13_readOnce_176 rfl rfl ?_
      refine zs_bipush (v := nI 10) dX13_readOnce_177 (by decide) ?_
      refine zs_iload_n dX13_readOnce_179 rfl ?_
      refine zs_iadd dX13_readOnce_180 ?_
      refine zs_as (y := nI (10 + 1)) (nI_add _ _) ?_
      refine zs_callV (M := mX13_isWord) (As := [.int (nI (10 + 1))]) (st := []) (Kc := [(mo, .inr (11, fMo e g1 w1))]) (Kr := [((e 1), .inl (0, 740, .inl (nF bt))), ((e 15), .inl (0, 200, .inl rf)), ((e 19), .inl (2, 12, .inr (.inl rn)))]) [0] [1, 2, 3] 0 dX13_readOnce_181 zl_RX13_264 kX13_isWord rfl rfl rfl rfl rfl (by decide) rfl rfl (show dd - 1 + 1 ≤ dd by omega) (Nat.zero_le _) (Nat.zero_le _) (Nat.le_of_ble_eq_true rfl) (s_mIsWord l (dd - 1) mo e g1 w1 n L (nxt bt n L t) (10 + 1) (by omega) (by omega) hT1 (nxt_W (b := bt) (n := n) (L := L) (τ := t)) hO_1) (fun r K1 hr => ?_)
      obtain ⟨rfl, rfl⟩ := hr
      refine zs_K (K' := [(mo, .inr (11, fMo e g1 w1)), ((e 1), .inl (0, 740, .inl (nF bt))), ((e 15), .inl (0, 200, .inl rf)), ((e 19), .inl (2, 12, .inr (.inl rn)))]) [3, 0, 1, 2] rfl (by decide) ?_
      refine zs_if_ne (tgt := 193) dX13_readOnce_184 (by decide) (fun c_14 => ?_) (fun c_14 => ?_)
      · have hwd := of_decide_eq_true (bI_t c_14)
        refine zs_iload_n dX13_readOnce_193 rfl ?_
        refine zs_iconst (v := nI 4) dX13_readOnce_194 (by decide) ?_
        refine zs_icmp_ne (tgt := 204) dX13_readOnce_195 (by decide) (fun c_15 => ?_) (fun c_15 => (by first | exact absurd c_15 (by decide) | exact absurd (by decide) c_15 : False).elim)
        refine zs_aload_n dX13_readOnce_204 rfl rfl ?_
        refine zs_get 0 dX13_readOnce_205 zf_RX13_16 rfl (v := .ref (e 15)) rfl ?_
        refine zs_bipush (v := nI 11) dX13_readOnce_208 (by decide) ?_
        refine zs_iload_n dX13_readOnce_210 rfl ?_
        refine zs_iast 2 dX13_readOnce_211 rfl (vp_in_nI (by omega) (by omega)) ?_
        rw [nI_c (n := 11) (by omega)]
        show zS _ _ _ _ _ _ [(mo, .inr (11, fMo e g1 w1)), ((e 1), .inl (0, 740, .inl (nF bt))), ((e 15), .inl (0, 200, .inl (upd rf 11 (nI 1)))), ((e 19), .inl (2, 12, .inr (.inl rn)))]
        refine zs_aload_n dX13_readOnce_212 rfl rfl ?_
        refine zs_callV (M := mX13_go) (As := []) (st := []) (Kc := [(mo, .inr (11, fMo e g1 w1)), ((e 1), .inl (0, 740, .inl (nF bt)))]) (Kr := [((e 15), .inl (0, 200, .inl (upd rf 11 (nI 1)))), ((e 19), .inl (2, 12, .inr (.inl rn)))]) [0, 1] [2, 3] 0 dX13_readOnce_213 zl_RX13_226 kX13_go rfl rfl rfl rfl rfl (by decide) rfl rfl (show dd - 1 + 1 ≤ dd by omega) (Nat.zero_le _) (Nat.zero_le _) (Nat.le_of_ble_eq_true rfl) (s_mGoT l (dd - 1) mo e g1 w1 n L bt (nxt bt n L t) (by omega) hn hL hbt h3_1 h4_1 hT1 (nxt_W (b := bt) (n := n) (L := L) (τ := t)) (show ¬ (nxt bt n L t).1 = 0 from fun hz => by have := hO_1.2.2.2.2.2.2.2.2 _ hwd; omega)) (fun r K1 hr => ?_)
        obtain ⟨rfl, g2, w2, hfr2, hT2, rfl⟩ := hr
        refine zs_K (K' := [(mo, .inr (11, fMo e g2 w2)), ((e 1), .inl (0, 740, .inl (nF bt))), ((e 15), .inl (0, 200, .inl (upd rf 11 (nI 1)))), ((e 19), .inl (2, 12, .inr (.inl rn)))]) [2, 3, 0, 1] rfl (by decide) ?_
        have fr2 : mFr [5, 6, 7, 8, 9, 13, 23] g g2 := mFr_t (fr1 : mFr [5, 6, 7, 8, 9, 13, 23] g g1) hfr2 (by decide) (by decide)
        have h3_2 : g2 3 = nI n := (hfr2 3 (by decide)).trans h3_1
        have h4_2 : g2 4 = nI L := (hfr2 4 (by decide)).trans h4_1
        have h23_2 : g2 23 = g1 23 := hfr2 23 (by decide)
        have hO_2 := nxt_OK (L := L) (τ := (nxt bt n L t)) hbt hn
        have h14_2 := hO_2.1
        have hkd_2 := mKd_4 (n := n) (L := L) hO_2.1
        refine zs_iconst (v := nI 1) dX13_readOnce_216 (by decide) ?_
        have er : (mOn bt n L k t tk D) = (0, (nxt bt n L (nxt bt n L t)), tk, ((un D.1 18 (D.1 18 ||| 2 ^ cb 9)), 1, D.2.2)) := by rw [mOn, if_neg h34_3, if_neg h34_4, if_neg h34_5, if_neg h34_6, if_neg h34_7, if_neg h34_8, pOn_0 h18_9, pWi, if_neg (show ¬ (nxt bt n L t).2.2.2.2 = some 10 from of_decide_eq_false (bI_f c_11)), if_pos (show (nxt bt n L t).2.2.2.2 = some 11 from of_decide_eq_true (bI_t c_14))] <;> rfl
        exact zs_zret dX13_readOnce_217 rfl (Or.inr rfl) (Or.inl ⟨by rw [er], rfl, g2, w2, (upd rf 11 (nI 1)), rn, fr2, by rw [er]; exact hT2, by rw [er]; exact nxt_W, by rw [er]; exact ⟨(yR_p11 (yR_18 (b := D.1 18 ||| 2 ^ cb 9) hRd.1)), fun i hi => hRd.2.1 i hi, ((h23_2.trans h23_1).trans (show nI (hdM (D.1 18 ||| 2 ^ cb k)) = nI (hdM (D.1 18 ||| 2 ^ cb 9)) from by rw [h9]))⟩, rfl⟩)
      · refine zs_iinc (v := (nI 2)) (lv' := [(2, .int (nI 2)), (0, .ref mo), (1, .int (nI k))]) dX13_readOnce_187 rfl (nI_add _ 1) (Nat.le_of_ble_eq_true rfl) rfl ?_
        refine zs_goto (tgt := 171) dX13_readOnce_190 (by decide) ?_
        refine zs_iload_n dX13_readOnce_171 rfl ?_
        refine zs_iconst (v := nI 4) dX13_readOnce_172 (by decide) ?_
        refine zs_icmp_ge (tgt := 193) dX13_readOnce_173 (by decide) (fun c_16 => (by first | exact absurd c_16 (by decide) | exact absurd (by decide) c_16 : False).elim) (fun c_16 => ?_)
        refine zs_aload_n dX13_readOnce_176 rfl rfl ?_
        refine zs_bipush (v := nI 10) dX13_readOnce_177 (by decide) ?_
        refine zs_iload_n dX13_readOnce_179 rfl ?_
        refine zs_iadd dX13_readOnce_180 ?_
        refine zs_as (y := nI (10 + 2)) (nI_add _ _) ?_
        refine zs_callV (M := mX13_isWord) (As := [.int (nI (10 + 2))]) (st := []) (Kc := [(mo, .inr (11, fMo e g1 w1))]) (Kr := [((e 1), .inl (0, 740, .inl (nF bt))), ((e 15), .inl (0, 200, .inl rf)), ((e 19), .inl (2, 12, .inr (.inl rn)))]) [0] [1, 2, 3] 0 dX13_readOnce_181 zl_RX13_264 kX13_isWord rfl rfl rfl rfl rfl (by decide) rfl rfl (show dd - 1 + 1 ≤ dd by omega) (Nat.zero_le _) (Nat.zero_le _) (Nat.le_of_ble_eq_true rfl) (s_mIsWord l (dd - 1) mo e g1 w1 n L (nxt bt n L t) (10 + 2) (by omega) (by omega) hT1 (nxt_W (b := bt) (n := n) (L := L) (τ := t)) hO_1) (fun r K1 hr => ?_)
        obtain ⟨rfl, rfl⟩ := hr
        refine zs_K (K' := [(mo, .inr (11, fMo e g1 w1)), ((e 1), .inl (0, 740, .inl (nF bt))), ((e 15), .inl (0, 200, .inl rf)), ((e 19), .inl (2, 12, .inr (.inl rn)))]) [3, 0, 1, 2] rfl (by decide) ?_
        refine zs_if_ne (tgt := 193) dX13_readOnce_184 (by decide) (fun c_17 => ?_) (fun c_17 => ?_)
        · have hwd := of_decide_eq_true (bI_t c_17)
          refine zs_iload_n dX13_readOnce_193 rfl ?_
          refine zs_iconst (v := nI 4) dX13_readOnce_194 (by decide) ?_
          refine zs_icmp_ne (tgt := 204) dX13_readOnce_195 (by decide) (fun c_18 => ?_) (fun c_18 => (by first | exact absurd c_18 (by decide) | exact absurd (by decide) c_18 : False).elim)
          refine zs_aload_n dX13_readOnce_204 rfl rfl ?_
          refine zs_get 0 dX13_readOnce_205 zf_RX13_16 rfl (v := .ref (e 15)) rfl ?_
          refine zs_bipush (v := nI 11) dX13_readOnce_208 (by decide) ?_
          refine zs_iload_n dX13_readOnce_210 rfl ?_
          refine zs_iast 2 dX13_readOnce_211 rfl (vp_in_nI (by omega) (by omega)) ?_
          rw [nI_c (n := 11) (by omega)]
          show zS _ _ _ _ _ _ [(mo, .inr (11, fMo e g1 w1)), ((e 1), .inl (0, 740, .inl (nF bt))), ((e 15), .inl (0, 200, .inl (upd rf 11 (nI 2)))), ((e 19), .inl (2, 12, .inr (.inl rn)))]
          refine zs_aload_n dX13_readOnce_212 rfl rfl ?_
          refine zs_callV (M := mX13_go) (As := []) (st := []) (Kc := [(mo, .inr (11, fMo e g1 w1)), ((e 1), .inl (0, 740, .inl (nF bt)))]) (Kr := [((e 15), .inl (0, 200, .inl (upd rf 11 (nI 2)))), ((e 19), .inl (2, 12, .inr (.inl rn)))]) [0, 1] [2, 3] 0 dX13_readOnce_213 zl_RX13_226 kX13_go rfl rfl rfl rfl rfl (by decide) rfl rfl (show dd - 1 + 1 ≤ dd by omega) (Nat.zero_le _) (Nat.zero_le _) (Nat.le_of_ble_eq_true rfl) (s_mGoT l (dd - 1) mo e g1 w1 n L bt (nxt bt n L t) (by omega) hn hL hbt h3_1 h4_1 hT1 (nxt_W (b := bt) (n := n) (L := L) (τ := t)) (show ¬ (nxt bt n L t).1 = 0 from fun hz => by have := hO_1.2.2.2.2.2.2.2.2 _ hwd; omega)) (fun r K1 hr => ?_)
          obtain ⟨rfl, g2, w2, hfr2, hT2, rfl⟩ := hr
          refine zs_K (K' := [(mo, .inr (11, fMo e g2 w2)), ((e 1), .inl (0, 740, .inl (nF bt))), ((e 15), .inl (0, 200, .inl (upd rf 11 (nI 2)))), ((e 19), .inl (2, 12, .inr (.inl rn)))]) [2, 3, 0, 1] rfl (by decide) ?_
          have fr2 : mFr [5, 6, 7, 8, 9, 13, 23] g g2 := mFr_t (fr1 : mFr [5, 6, 7, 8, 9, 13, 23] g g1) hfr2 (by decide) (by decide)
          have h3_2 : g2 3 = nI n := (hfr2 3 (by decide)).trans h3_1
          have h4_2 : g2 4 = nI L := (hfr2 4 (by decide)).trans h4_1
          have h23_2 : g2 23 = g1 23 := hfr2 23 (by decide)
          have hO_2 := nxt_OK (L := L) (τ := (nxt bt n L t)) hbt hn
          have h14_2 := hO_2.1
          have hkd_2 := mKd_4 (n := n) (L := L) hO_2.1
          refine zs_iconst (v := nI 1) dX13_readOnce_216 (by decide) ?_
          have er : (mOn bt n L k t tk D) = (0, (nxt bt n L (nxt bt n L t)), tk, ((un D.1 18 (D.1 18 ||| 2 ^ cb 9)), 2, D.2.2)) := by rw [mOn, if_neg h34_3, if_neg h34_4, if_neg h34_5, if_neg h34_6, if_neg h34_7, if_neg h34_8, pOn_0 h18_9, pWi, if_neg (show ¬ (nxt bt n L t).2.2.2.2 = some 10 from of_decide_eq_false (bI_f c_11)), if_neg (show ¬ (nxt bt n L t).2.2.2.2 = some 11 from of_decide_eq_false (bI_f c_14)), if_pos (show (nxt bt n L t).2.2.2.2 = some 12 from of_decide_eq_true (bI_t c_17))] <;> rfl
          exact zs_zret dX13_readOnce_217 rfl (Or.inr rfl) (Or.inl ⟨by rw [er], rfl, g2, w2, (upd rf 11 (nI 2)), rn, fr2, by rw [er]; exact hT2, by rw [er]; exact nxt_W, by rw [er]; exact ⟨(yR_p11 (yR_18 (b := D.1 18 ||| 2 ^ cb 9) hRd.1)), fun i hi => hRd.2.1 i hi, ((h23_2.trans h23_1).trans (show nI (hdM (D.1 18 ||| 2 ^ cb k)) = nI (hdM (D.1 18 ||| 2 ^ cb 9)) from by rw [h9]))⟩, rfl⟩)
        · refine zs_iinc (v := (nI 3)) (lv' := [(2, .int (nI 3)), (0, .ref mo), (1, .int (nI k))]) dX13_readOnce_187 rfl (nI_add _ 1) (Nat.le_of_ble_eq_true rfl) rfl ?_
          refine zs_goto (tgt := 171) dX13_readOnce_190 (by decide) ?_
          refine zs_iload_n dX13_readOnce_171 rfl ?_
          refine zs_iconst (v := nI 4) dX13_readOnce_172 (by decide) ?_
          refine zs_icmp_ge (tgt := 193) dX13_readOnce_173 (by decide) (fun c_19 => (by first | exact absurd c_19 (by decide) | exact absurd (by decide) c_19 : False).elim) (fun c_19 => ?_)
          refine zs_aload_n dX13_readOnce_176 rfl rfl ?_
          refine zs_bipush (v := nI 10) dX13_readOnce_177 (by decide) ?_
          refine zs_iload_n dX13_readOnce_179 rfl ?_
          refine zs_iadd dX13_readOnce_180 ?_
          refine zs_as (y := nI (10 + 3)) (nI_add _ _) ?_
          refine zs_callV (M := mX13_isWord) (As := [.int (nI (10 + 3))]) (st := []) (Kc := [(mo, .inr (11, fMo e g1 w1))]) (Kr := [((e 1), .inl (0, 740, .inl (nF bt))), ((e 15), .inl (0, 200, .inl rf)), ((e 19), .inl (2, 12, .inr (.inl rn)))]) [0] [1, 2, 3] 0 dX13_readOnce_181 zl_RX13_264 kX13_isWord rfl rfl rfl rfl rfl (by decide) rfl rfl (show dd - 1 + 1 ≤ dd by omega) (Nat.zero_le _) (Nat.zero_le _) (Nat.le_of_ble_eq_true rfl) (s_mIsWord l (dd - 1) mo e g1 w1 n L (nxt bt n L t) (10 + 3) (by omega) (by omega) hT1 (nxt_W (b := bt) (n := n) (L := L) (τ := t)) hO_1) (fun r K1 hr => ?_)
          obtain ⟨rfl, rfl⟩ := hr
          refine zs_K (K' := [(mo, .inr (11, fMo e g1 w1)), ((e 1), .inl (0, 740, .inl (nF bt))), ((e 15), .inl (0, 200, .inl rf)), ((e 19), .inl (2, 12, .inr (.inl rn)))]) [3, 0, 1, 2] rfl (by decide) ?_
          refine zs_if_ne (tgt := 193) dX13_readOnce_184 (by decide) (fun c_20 => ?_) (fun c_20 => ?_)
          · have hwd := of_decide_eq_true (bI_t c_20)
            refine zs_iload_n dX13_readOnce_193 rfl ?_
            refine zs_iconst (v := nI 4) dX13_readOnce_194 (by decide) ?_
            refine zs_icmp_ne (tgt := 204) dX13_readOnce_195 (by decide) (fun c_21 => ?_) (fun c_21 => (by first | exact absurd c_21 (by decide) | exact absurd (by decide) c_21 : False).elim)
            refine zs_aload_n dX13_readOnce_204 rfl rfl ?_
            refine zs_get 0 dX13_readOnce_205 zf_RX13_16 rfl (v := .ref (e 15)) rfl ?_
            refine zs_bipush (v := nI 11) dX13_readOnce_208 (by decide) ?_
            refine zs_iload_n dX13_readOnce_210 rfl ?_
            refine zs_iast 2 dX13_readOnce_211 rfl (vp_in_nI (by omega) (by omega)) ?_
            rw [nI_c (n := 11) (by omega)]
            show zS _ _ _ _ _ _ [(mo, .inr (11, fMo e g1 w1)), ((e 1), .inl (0, 740, .inl (nF bt))), ((e 15), .inl (0, 200, .inl (upd rf 11 (nI 3)))), ((e 19), .inl (2, 12, .inr (.inl rn)))]
            refine zs_aload_n dX13_readOnce_212 rfl rfl ?_
            refine zs_callV (M := mX13_go) (As := []) (st := []) (Kc := [(mo, .inr (11, fMo e g1 w1)), ((e 1), .inl (0, 740, .inl (nF bt)))]) (Kr := [((e 15), .inl (0, 200, .inl (upd rf 11 (nI 3)))), ((e 19), .inl (2, 12, .inr (.inl rn)))]) [0, 1] [2, 3] 0 dX13_readOnce_213 zl_RX13_226 kX13_go rfl rfl rfl rfl rfl (by decide) rfl rfl (show dd - 1 + 1 ≤ dd by omega) (Nat.zero_le _) (Nat.zero_le _) (Nat.le_of_ble_eq_true rfl) (s_mGoT l (dd - 1) mo e g1 w1 n L bt (nxt bt n L t) (by omega) hn hL hbt h3_1 h4_1 hT1 (nxt_W (b := bt) (n := n) (L := L) (τ := t)) (show ¬ (nxt bt n L t).1 = 0 from fun hz => by have := hO_1.2.2.2.2.2.2.2.2 _ hwd; omega)) (fun r K1 hr => ?_)
            obtain ⟨rfl, g2, w2, hfr2, hT2, rfl⟩ := hr
            refine zs_K (K' := [(mo, .inr (11, fMo e g2 w2)), ((e 1), .inl (0, 740, .inl (nF bt))), ((e 15), .inl (0, 200, .inl (upd rf 11 (nI 3)))), ((e 19), .inl (2, 12, .inr (.inl rn)))]) [2, 3, 0, 1] rfl (by decide) ?_
            have fr2 : mFr [5, 6, 7, 8, 9, 13, 23] g g2 := mFr_t (fr1 : mFr [5, 6, 7, 8, 9, 13, 23] g g1) hfr2 (by decide) (by decide)
            have h3_2 : g2 3 = nI n := (hfr2 3 (by decide)).trans h3_1
            have h4_2 : g2 4 = nI L := (hfr2 4 (by decide)).trans h4_1
            have h23_2 : g2 23 = g1 23 := hfr2 23 (by decide)
            have hO_2 := nxt_OK (L := L) (τ := (nxt bt n L t)) hbt hn
            have h14_2 := hO_2.1
            have hkd_2 := mKd_4 (n := n) (L := L) hO_2.1
            refine zs_iconst (v := nI 1) dX13_readOnce_216 (by decide) ?_
            have er : (mOn bt n L k t tk D) = (0, (nxt bt n L (nxt bt n L t)), tk, ((un D.1 18 (D.1 18 ||| 2 ^ cb 9)), 3, D.2.2)) := by rw [mOn, if_neg h34_3, if_neg h34_4, if_neg h34_5, if_neg h34_6, if_neg h34_7, if_neg h34_8, pOn_0 h18_9, pWi, if_neg (show ¬ (nxt bt n L t).2.2.2.2 = some 10 from of_decide_eq_false (bI_f c_11)), if_neg (show ¬ (nxt bt n L t).2.2.2.2 = some 11 from of_decide_eq_false (bI_f c_14)), if_neg (show ¬ (nxt bt n L t).2.2.2.2 = some 12 from of_decide_eq_false (bI_f c_17)), if_pos (show (nxt bt n L t).2.2.2.2 = some 13 from of_decide_eq_true (bI_t c_20))] <;> rfl
            exact zs_zret dX13_readOnce_217 rfl (Or.inr rfl) (Or.inl ⟨by rw [er], rfl, g2, w2, (upd rf 11 (nI 3)), rn, fr2, by rw [er]; exact hT2, by rw [er]; exact nxt_W, by rw [er]; exact ⟨(yR_p11 (yR_18 (b := D.1 18 ||| 2 ^ cb 9) hRd.1)), fun i hi => hRd.2.1 i hi, ((h23_2.trans h23_1).trans (show nI (hdM (D.1 18 ||| 2 ^ cb k)) = nI (hdM (D.1 18 ||| 2 ^ cb 9)) from by rw [h9]))⟩, rfl⟩)
          · refine zs_iinc (v := (nI 4)) (lv' := [(2, .int (nI 4)), (0, .ref mo), (1, .int (nI k))]) dX13_readOnce_187 rfl (nI_add _ 1) (Nat.le_of_ble_eq_true rfl) rfl ?_
            refine zs_goto (tgt := 171) dX13_readOnce_190 (by decide) ?_
            refine zs_iload_n dX13_readOnce_171 rfl ?_
            refine zs_iconst (v := nI 4) dX13_readOnce_172 (by decide) ?_
            refine zs_icmp_ge (tgt := 193) dX13_readOnce_173 (by decide) (fun c_22 => ?_) (fun c_22 => (by first | exact absurd c_22 (by decide) | exact absurd (by decide) c_22 : False).elim)
            refine zs_iload_n dX13_readOnce_193 rfl ?_
            refine zs_iconst (v := nI 4) dX13_readOnce_194 (by decide) ?_
            refine zs_icmp_ne (tgt := 204) dX13_readOnce_195 (by decide) (fun c_23 => (by first | exact absurd c_23 (by decide) | exact absurd (by decide) c_23 : False).elim) (fun c_23 => ?_)
            refine zs_aload_n dX13_readOnce_198 rfl rfl ?_
            refine zs_iconst (v := nI 1) dX13_readOnce_199 (by decide) ?_
            refine zs_callV (M := mX13_bad) (As := [.int (nI 1)]) (st := []) (Kc := [(mo, .inr (11, fMo e g1 w1))]) (Kr := [((e 1), .inl (0, 740, .inl (nF bt))), ((e 15), .inl (0, 200, .inl rf)), ((e 19), .inl (2, 12, .inr (.inl rn)))]) [0] [1, 2, 3] 0 dX13_readOnce_200 zl_RX13_216 kX13_bad rfl rfl rfl rfl rfl (by decide) rfl rfl (show dd - 1 + 1 ≤ dd by omega) (Nat.zero_le _) (Nat.zero_le _) (Nat.le_of_ble_eq_true rfl) (s_mBad l (dd - 1) mo e g1 w1 n L (nxt bt n L t) 1 hT1 (nxt_W (b := bt) (n := n) (L := L) (τ := t)) hO_1) (fun r K1 hr => ?_)
            rw [mBad_e (by first | (intro; rfl) | (intro h; unfold mKd at h; split at h <;> omega))] at hr
            obtain ⟨rfl, rfl⟩ := hr
            refine zs_K (K' := [(mo, .inr (11, fMo e (mFa g1 1 (nxt bt n L t)) w1)), ((e 1), .inl (0, 740, .inl (nF bt))), ((e 15), .inl (0, 200, .inl rf)), ((e 19), .inl (2, 12, .inr (.inl rn)))]) [3, 0, 1, 2] rfl (by decide) ?_
            have e1 : (mOn bt n L k t tk D).1 = 1 ∧ (mOn bt n L k t tk D).2.1 = (nxt bt n L t) := by rw [mOn, if_neg h34_3, if_neg h34_4, if_neg h34_5, if_neg h34_6, if_neg h34_7, if_neg h34_8, pOn_0 h18_9, pWi, if_neg (show ¬ (nxt bt n L t).2.2.2.2 = some 10 from of_decide_eq_false (bI_f c_11)), if_neg (show ¬ (nxt bt n L t).2.2.2.2 = some 11 from of_decide_eq_false (bI_f c_14)), if_neg (show ¬ (nxt bt n L t).2.2.2.2 = some 12 from of_decide_eq_false (bI_f c_17)), if_neg (show ¬ (nxt bt n L t).2.2.2.2 = some 13 from of_decide_eq_false (bI_f c_20))]; exact ⟨rfl, rfl⟩
            exact zs_zret dX13_readOnce_203 rfl (Or.inl rfl) (Or.inr ⟨by rw [e1.1]; exact (show ¬ 1 = 0 by decide), rfl, mFa g1 1 (nxt bt n L t), w1, rf, rn, mFr_fa fr1 (by decide) (by decide), by rw [e1.1]; rfl, by rw [e1.2]; rfl, rfl⟩)
  · have h18n : ¬ D.1 18 &&& 2 ^ cb k = 0 := fun h => c_1 ((had_z h18b hk).mpr h)
    refine zs_aload_n dX13_readOnce_11 rfl rfl ?_
    refine zs_iconst (v := nI 3) dX13_readOnce_12 (by decide) ?_
    refine zs_callV (M := mX13_bad) (As := [.int (nI 3)]) (st := []) (Kc := [(mo, .inr (11, fMo e g w))]) (Kr := [((e 1), .inl (0, 740, .inl (nF bt))), ((e 15), .inl (0, 200, .inl rf)), ((e 19), .inl (2, 12, .inr (.inl rn)))]) [0] [1, 2, 3] 0 dX13_readOnce_13 zl_RX13_216 kX13_bad rfl rfl rfl rfl rfl (by decide) rfl rfl (show dd - 1 + 1 ≤ dd by omega) (Nat.zero_le _) (Nat.zero_le _) (Nat.le_of_ble_eq_true rfl) (s_mBad l (dd - 1) mo e g w n L t 3 hT hW hO) (fun r K1 hr => ?_)
    rw [mBad_e (by first | (intro; rfl) | (intro h; unfold mKd at h; split at h <;> omega))] at hr
    obtain ⟨rfl, rfl⟩ := hr
    refine zs_K (K' := [(mo, .inr (11, fMo e (mFa g 3 t) w)), ((e 1), .inl (0, 740, .inl (nF bt))), ((e 15), .inl (0, 200, .inl rf)), ((e 19), .inl (2, 12, .inr (.inl rn)))]) [3, 0, 1, 2] rfl (by decide) ?_
    have e1 : (mOn bt n L k t tk D).1 = 3 ∧ (mOn bt n L k t tk D).2.1 = t := by rw [mOn_1 hk h18n]; exact ⟨rfl, rfl⟩
    exact zs_zret dX13_readOnce_16 rfl (Or.inl rfl) (Or.inr ⟨by rw [e1.1]; decide, rfl, mFa g 3 t, w, rf, rn, mFr_fa mFr_r (by decide) (by decide), by rw [e1.1]; rfl, by rw [e1.2]; rfl, rfl⟩)
