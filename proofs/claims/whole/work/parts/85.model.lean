/-! ===== the reference: what burns ===== -/
theorem bIn_C {v C : Nat} (hv : v ≤ 99999999) (hC : C ≤ 99) : bIn (nI v) (nI 0) (pC1 C) = decide (v < C) := by
  have h := pC1_le (v := v) (C := C) (by omega) hC
  unfold bIn
  by_cases q : v < C
  · rw [decide_eq_true q, decide_eq_true ⟨by rw [nI_lt' (by omega) (by omega)]; omega, Int32.not_lt.mpr (h.mpr q)⟩]
  · rw [decide_eq_false q, decide_eq_false (fun z => q (h.mp (Int32.not_lt.mp z.2)))]
set_option maxRecDepth 100000 in
theorem s_mReadNumC (l : Launch) (dd : Nat) (mo : Nat) (e : Nat → Nat) (g : Nat → Int32) (w : Int64) (n L : Nat) (bt : Nat → Nat) (t : zTk) (C : Nat) (hd : 2 ≤ dd) (hn : n ≤ 740) (hL : L ≤ 740) (hbt : ∀ j, bt j < 256) (h3 : g 3 = nI n) (h4 : g 4 = nI L) (hT : mTk n L t g w) (hW : tW n L t) (hO : tOK t) (hC : C ≤ 99) : zSp l mX13_readNumber dd 0 0 [.ref mo, .int (nI 0), .int (pC1 C)] [(mo, .inr (11, fMo e g w)), ((e 1), .inl (0, 740, .inl (nF bt)))] (fun r K' => (tNuC t C = 0 ∧ r = some (.int 1) ∧ ∃ g' w', mFr [5, 6, 7, 8, 9, 13] g g' ∧ g' 13 = nI t.2.2.2.1 ∧ mTk n L (nxt bt n L t) g' w' ∧ K' = [(mo, .inr (11, fMo e g' w'))] ++ [((e 1), .inl (0, 740, .inl (nF bt)))]) ∨ (¬ tNuC t C = 0 ∧ r = some (.int 0) ∧ K' = [(mo, .inr (11, fMo e (mFa g (tNuC t C) t) w))] ++ [((e 1), .inl (0, 740, .inl (nF bt)))])) := by
  refine zSp.of (by decide) (Nat.le_of_ble_eq_true rfl) (fun h0 => ?_)
  show zS _ 0 0 0 [(0, .ref mo), (1, .int (nI 0)), (2, .int (pC1 C))] [] [(mo, .inr (11, fMo e g w)), ((e 1), .inl (0, 740, .inl (nF bt)))]
  have h14 := hO.1
  have hk4 := mKd_4 (n := n) (L := L) hO.1
  refine zs_aload_n dX13_readNumber_0 rfl rfl ?_
  refine zs_get 0 dX13_readNumber_1 zf_RX13_170 rfl (v := .int (g 7)) rfl ?_
  refine zs_as (y := nI (mKd n L t)) (mTk_7 hT) ?_
  refine zs_iconst (v := nI 3) dX13_readNumber_4 (by decide) ?_
  refine zs_icmp_eq (tgt := 14) dX13_readNumber_5 (by decide) (fun c_1 => ?_) (fun c_1 => ?_)
  · have c_1 : (mKd n L t) = 3 := by have hc := c_1; rw [nI_eq' (by omega) (by omega)] at hc; exact hc
    have h3k : t.1 = 3 := (mKd_n (by decide)).mp c_1
    have hv9 := hO.2.2.2.2.1 h3k
    have h0 : ¬ t.1 = 0 := by omega
    refine zs_aload_n dX13_readNumber_14 rfl rfl ?_
    refine zs_get 0 dX13_readNumber_15 zf_RX13_187 rfl (v := .int (g 8)) rfl ?_
    refine zs_iload_n dX13_readNumber_18 rfl ?_
    refine zs_iload_n dX13_readNumber_19 rfl ?_
    refine zs_callS (M := mX13_isIn) (As := [.int (g 8), .int (nI 0), .int (pC1 C)]) (st := []) (Kc := []) (Kr := [(mo, .inr (11, fMo e g w)), ((e 1), .inl (0, 740, .inl (nF bt)))]) [] [0, 1] dX13_readNumber_20 zl_RX13_219 kX13_isIn rfl rfl rfl rfl rfl (by decide) (show dd - 1 + 1 ≤ dd by omega) (Nat.zero_le _) (Nat.zero_le _) (Nat.le_of_ble_eq_true rfl) (s_mIsIn l (dd - 1) (g 8) (nI 0) (pC1 C)) (fun r K1 hr => ?_)
    obtain ⟨rfl, rfl⟩ := hr
    refine zs_K (K' := [(mo, .inr (11, fMo e g w)), ((e 1), .inl (0, 740, .inl (nF bt)))]) [0, 1] rfl (by decide) ?_
    refine zs_if_ne (tgt := 32) dX13_readNumber_23 (by decide) (fun c_2 => ?_) (fun c_2 => ?_)
    · have hin := bI_t c_2
      rw [hT.2.2.1 h3k, bIn_C hv9 hC] at hin
      have hin := of_decide_eq_true hin
      have htn : tNuC t C = 0 := by rw [tNuC, if_pos h3k, if_neg (by omega)]
      refine zs_aload_n dX13_readNumber_32 rfl rfl ?_
      refine zs_aload_n dX13_readNumber_33 rfl rfl ?_
      refine zs_get 0 dX13_readNumber_34 zf_RX13_187 rfl (v := .int (g 8)) rfl ?_
      refine zs_put 0 dX13_readNumber_37 zf_RX13_223 rfl (Nat.le_of_ble_eq_true rfl) (zPv_i _) ?_
      show zS _ _ _ _ _ _ [(mo, .inr (11, fMo e (upd g 13 (g 8)) w)), ((e 1), .inl (0, 740, .inl (nF bt)))]
      refine zs_aload_n dX13_readNumber_40 rfl rfl ?_
      refine zs_callV (M := mX13_go) (As := []) (st := []) (Kc := [(mo, .inr (11, fMo e (upd g 13 (g 8)) w)), ((e 1), .inl (0, 740, .inl (nF bt)))]) (Kr := []) [0, 1] [] 0 dX13_readNumber_41 zl_RX13_226 kX13_go rfl rfl rfl rfl rfl (by decide) rfl rfl (show dd - 1 + 1 ≤ dd by omega) (Nat.zero_le _) (Nat.zero_le _) (Nat.le_of_ble_eq_true rfl) (s_mGoT l (dd - 1) mo e (upd g 13 (g 8)) w n L bt t (by omega) hn hL hbt h3 h4 (mTk_f hT rfl rfl rfl rfl rfl) hW h0) (fun r K1 hr => ?_)
      obtain ⟨rfl, g', w', hfr, hT', rfl⟩ := hr
      refine zs_K (K' := [(mo, .inr (11, fMo e g' w')), ((e 1), .inl (0, 740, .inl (nF bt)))]) [0, 1] rfl (by decide) ?_
      refine zs_iconst (v := nI 1) dX13_readNumber_44 (by decide) ?_
      exact zs_zret dX13_readNumber_45 rfl (Or.inr rfl) (Or.inl ⟨htn, rfl, g', w', mFr_13 hfr, (hfr 13 (by decide)).trans (hT.2.2.1 h3k), hT', rfl⟩)
    · have hin := bI_f c_2
      rw [hT.2.2.1 h3k, bIn_C hv9 hC] at hin
      have hin := of_decide_eq_false hin
      have htn : tNuC t C = 2 := by rw [tNuC, if_pos h3k, if_pos (by omega)]
      refine zs_aload_n dX13_readNumber_26 rfl rfl ?_
      refine zs_iconst (v := nI 2) dX13_readNumber_27 (by decide) ?_
      refine zs_callV (M := mX13_bad) (As := [.int (nI 2)]) (st := []) (Kc := [(mo, .inr (11, fMo e g w))]) (Kr := [((e 1), .inl (0, 740, .inl (nF bt)))]) [0] [1] 0 dX13_readNumber_28 zl_RX13_216 kX13_bad rfl rfl rfl rfl rfl (by decide) rfl rfl (show dd - 1 + 1 ≤ dd by omega) (Nat.zero_le _) (Nat.zero_le _) (Nat.le_of_ble_eq_true rfl) (s_mBad l (dd - 1) mo e g w n L t 2 hT hW hO) (fun r K1 hr => ?_)
      rw [mBad_e (by first | (intro; rfl) | (intro h; omega))] at hr
      obtain ⟨rfl, rfl⟩ := hr
      refine zs_K (K' := [(mo, .inr (11, fMo e (mFa g 2 t) w)), ((e 1), .inl (0, 740, .inl (nF bt)))]) [1, 0] rfl (by decide) ?_
      exact zs_zret dX13_readNumber_31 rfl (Or.inl rfl) (Or.inr ⟨by rw [htn]; decide, rfl, by rw [htn]; rfl⟩)
  · have c_1 : ¬ ((mKd n L t) = 3) := by have hc := c_1; rw [nI_eq' (by omega) (by omega)] at hc; exact hc
    have htn : tNuC t C = 1 := by rw [tNuC, if_neg (fun h => c_1 ((mKd_n (by decide)).mpr h))]
    refine zs_aload_n dX13_readNumber_8 rfl rfl ?_
    refine zs_iconst (v := nI 1) dX13_readNumber_9 (by decide) ?_
    refine zs_callV (M := mX13_bad) (As := [.int (nI 1)]) (st := []) (Kc := [(mo, .inr (11, fMo e g w))]) (Kr := [((e 1), .inl (0, 740, .inl (nF bt)))]) [0] [1] 0 dX13_readNumber_10 zl_RX13_216 kX13_bad rfl rfl rfl rfl rfl (by decide) rfl rfl (show dd - 1 + 1 ≤ dd by omega) (Nat.zero_le _) (Nat.zero_le _) (Nat.le_of_ble_eq_true rfl) (s_mBad l (dd - 1) mo e g w n L t 1 hT hW hO) (fun r K1 hr => ?_)
    rw [mBad_e (by first | (intro; rfl) | (intro h; omega))] at hr
    obtain ⟨rfl, rfl⟩ := hr
    refine zs_K (K' := [(mo, .inr (11, fMo e (mFa g 1 t) w)), ((e 1), .inl (0, 740, .inl (nF bt)))]) [1, 0] rfl (by decide) ?_
    exact zs_zret dX13_readNumber_13 rfl (Or.inl rfl) (Or.inr ⟨by rw [htn]; decide, rfl, by rw [htn]; rfl⟩)
theorem dX13_readBurn_0 : decode cX13_readBurn 0 = .ok (.aload_n 0, 1) := by decide +kernel
theorem dX13_readBurn_1 : decode cX13_readBurn 1 = .ok (.invokevirtual 226, 3) := by decide +kernel
theorem dX13_readBurn_4 : decode cX13_readBurn 4 = .ok (.aload_n 0, 1) := by decide +kernel
theorem dX13_readBurn_5 : decode cX13_readBurn 5 = .ok (.iconst 0, 1) := by decide +kernel
theorem dX13_readBurn_6 : decode cX13_readBurn 6 = .ok (.aload_n 0, 1) := by decide +kernel
theorem dX13_readBurn_7 : decode cX13_readBurn 7 = .ok (.getfield 16, 3) := by decide +kernel
theorem dX13_readBurn_10 : decode cX13_readBurn 10 = .ok (.bipush 9, 2) := by decide +kernel
theorem dX13_readBurn_12 : decode cX13_readBurn 12 = .ok (.iaload, 1) := by decide +kernel
theorem dX13_readBurn_13 : decode cX13_readBurn 13 = .ok (.iconst 1, 1) := by decide +kernel
theorem dX13_readBurn_14 : decode cX13_readBurn 14 = .ok (.isub, 1) := by decide +kernel
theorem dX13_readBurn_15 : decode cX13_readBurn 15 = .ok (.invokevirtual 251, 3) := by decide +kernel
theorem dX13_readBurn_18 : decode cX13_readBurn 18 = .ok (.ifCond .ne 5, 3) := by decide +kernel
theorem dX13_readBurn_21 : decode cX13_readBurn 21 = .ok (.iconst 0, 1) := by decide +kernel
theorem dX13_readBurn_22 : decode cX13_readBurn 22 = .ok (.ireturn, 1) := by decide +kernel
theorem dX13_readBurn_23 : decode cX13_readBurn 23 = .ok (.aload_n 0, 1) := by decide +kernel
theorem dX13_readBurn_24 : decode cX13_readBurn 24 = .ok (.getfield 223, 3) := by decide +kernel
theorem dX13_readBurn_27 : decode cX13_readBurn 27 = .ok (.istore_n 1, 1) := by decide +kernel
theorem dX13_readBurn_28 : decode cX13_readBurn 28 = .ok (.aload_n 0, 1) := by decide +kernel
theorem dX13_readBurn_29 : decode cX13_readBurn 29 = .ok (.getfield 170, 3) := by decide +kernel
theorem dX13_readBurn_32 : decode cX13_readBurn 32 = .ok (.iconst 3, 1) := by decide +kernel
theorem dX13_readBurn_33 : decode cX13_readBurn 33 = .ok (.if_icmp .eq 9, 3) := by decide +kernel
theorem dX13_readBurn_36 : decode cX13_readBurn 36 = .ok (.aload_n 0, 1) := by decide +kernel
theorem dX13_readBurn_37 : decode cX13_readBurn 37 = .ok (.iconst 1, 1) := by decide +kernel
theorem dX13_readBurn_38 : decode cX13_readBurn 38 = .ok (.invokevirtual 216, 3) := by decide +kernel
theorem dX13_readBurn_41 : decode cX13_readBurn 41 = .ok (.ireturn, 1) := by decide +kernel
theorem dX13_readBurn_42 : decode cX13_readBurn 42 = .ok (.aload_n 0, 1) := by decide +kernel
theorem dX13_readBurn_43 : decode cX13_readBurn 43 = .ok (.getfield 187, 3) := by decide +kernel
theorem dX13_readBurn_46 : decode cX13_readBurn 46 = .ok (.aload_n 0, 1) := by decide +kernel
theorem dX13_readBurn_47 : decode cX13_readBurn 47 = .ok (.getfield 16, 3) := by decide +kernel
theorem dX13_readBurn_50 : decode cX13_readBurn 50 = .ok (.bipush 10, 2) := by decide +kernel
theorem dX13_readBurn_52 : decode cX13_readBurn 52 = .ok (.iaload, 1) := by decide +kernel
theorem dX13_readBurn_53 : decode cX13_readBurn 53 = .ok (.if_icmp .ge 28, 3) := by decide +kernel
theorem dX13_readBurn_56 : decode cX13_readBurn 56 = .ok (.aload_n 0, 1) := by decide +kernel
theorem dX13_readBurn_57 : decode cX13_readBurn 57 = .ok (.getfield 16, 3) := by decide +kernel
theorem dX13_readBurn_60 : decode cX13_readBurn 60 = .ok (.bipush 60, 2) := by decide +kernel
theorem dX13_readBurn_62 : decode cX13_readBurn 62 = .ok (.aload_n 0, 1) := by decide +kernel
theorem dX13_readBurn_63 : decode cX13_readBurn 63 = .ok (.getfield 16, 3) := by decide +kernel
theorem dX13_readBurn_66 : decode cX13_readBurn 66 = .ok (.bipush 9, 2) := by decide +kernel
theorem dX13_readBurn_68 : decode cX13_readBurn 68 = .ok (.iaload, 1) := by decide +kernel
theorem dX13_readBurn_69 : decode cX13_readBurn 69 = .ok (.aload_n 0, 1) := by decide +kernel
theorem dX13_readBurn_70 : decode cX13_readBurn 70 = .ok (.getfield 187, 3) := by decide +kernel
theorem dX13_readBurn_73 : decode cX13_readBurn 73 = .ok (.imul, 1) := by decide +kernel
theorem dX13_readBurn_74 : decode cX13_readBurn 74 = .ok (.iadd, 1) := by decide +kernel
theorem dX13_readBurn_75 : decode cX13_readBurn 75 = .ok (.iload_n 1, 1) := by decide +kernel
theorem dX13_readBurn_76 : decode cX13_readBurn 76 = .ok (.iadd, 1) := by decide +kernel
theorem dX13_readBurn_77 : decode cX13_readBurn 77 = .ok (.iaload, 1) := by decide +kernel
theorem dX13_readBurn_78 : decode cX13_readBurn 78 = .ok (.ifCond .ne 9, 3) := by decide +kernel
theorem dX13_readBurn_81 : decode cX13_readBurn 81 = .ok (.aload_n 0, 1) := by decide +kernel
theorem dX13_readBurn_82 : decode cX13_readBurn 82 = .ok (.iconst 2, 1) := by decide +kernel
theorem dX13_readBurn_83 : decode cX13_readBurn 83 = .ok (.invokevirtual 216, 3) := by decide +kernel
theorem dX13_readBurn_86 : decode cX13_readBurn 86 = .ok (.ireturn, 1) := by decide +kernel
theorem dX13_readBurn_87 : decode cX13_readBurn 87 = .ok (.aload_n 0, 1) := by decide +kernel
theorem dX13_readBurn_88 : decode cX13_readBurn 88 = .ok (.getfield 16, 3) := by decide +kernel
theorem dX13_readBurn_91 : decode cX13_readBurn 91 = .ok (.bipush 9, 2) := by decide +kernel
theorem dX13_readBurn_93 : decode cX13_readBurn 93 = .ok (.iaload, 1) := by decide +kernel
theorem dX13_readBurn_94 : decode cX13_readBurn 94 = .ok (.aload_n 0, 1) := by decide +kernel
theorem dX13_readBurn_95 : decode cX13_readBurn 95 = .ok (.getfield 187, 3) := by decide +kernel
theorem dX13_readBurn_98 : decode cX13_readBurn 98 = .ok (.imul, 1) := by decide +kernel
theorem dX13_readBurn_99 : decode cX13_readBurn 99 = .ok (.iload_n 1, 1) := by decide +kernel
theorem dX13_readBurn_100 : decode cX13_readBurn 100 = .ok (.iadd, 1) := by decide +kernel
theorem dX13_readBurn_101 : decode cX13_readBurn 101 = .ok (.istore_n 2, 1) := by decide +kernel
theorem dX13_readBurn_102 : decode cX13_readBurn 102 = .ok (.aload_n 0, 1) := by decide +kernel
theorem dX13_readBurn_103 : decode cX13_readBurn 103 = .ok (.getfield 16, 3) := by decide +kernel
theorem dX13_readBurn_106 : decode cX13_readBurn 106 = .ok (.sipush 130, 3) := by decide +kernel
theorem dX13_readBurn_109 : decode cX13_readBurn 109 = .ok (.iload_n 2, 1) := by decide +kernel
theorem dX13_readBurn_110 : decode cX13_readBurn 110 = .ok (.iadd, 1) := by decide +kernel
theorem dX13_readBurn_111 : decode cX13_readBurn 111 = .ok (.iaload, 1) := by decide +kernel
theorem dX13_readBurn_112 : decode cX13_readBurn 112 = .ok (.iconst 1, 1) := by decide +kernel
theorem dX13_readBurn_113 : decode cX13_readBurn 113 = .ok (.if_icmp .ne 9, 3) := by decide +kernel
theorem dX13_readBurn_116 : decode cX13_readBurn 116 = .ok (.aload_n 0, 1) := by decide +kernel
theorem dX13_readBurn_117 : decode cX13_readBurn 117 = .ok (.iconst 3, 1) := by decide +kernel
theorem dX13_readBurn_118 : decode cX13_readBurn 118 = .ok (.invokevirtual 216, 3) := by decide +kernel
theorem dX13_readBurn_121 : decode cX13_readBurn 121 = .ok (.ireturn, 1) := by decide +kernel
theorem dX13_readBurn_122 : decode cX13_readBurn 122 = .ok (.aload_n 0, 1) := by decide +kernel
theorem dX13_readBurn_123 : decode cX13_readBurn 123 = .ok (.getfield 16, 3) := by decide +kernel
theorem dX13_readBurn_126 : decode cX13_readBurn 126 = .ok (.sipush 130, 3) := by decide +kernel
theorem dX13_readBurn_129 : decode cX13_readBurn 129 = .ok (.iload_n 2, 1) := by decide +kernel
theorem dX13_readBurn_130 : decode cX13_readBurn 130 = .ok (.iadd, 1) := by decide +kernel
theorem dX13_readBurn_131 : decode cX13_readBurn 131 = .ok (.iconst 1, 1) := by decide +kernel
theorem dX13_readBurn_132 : decode cX13_readBurn 132 = .ok (.iastore, 1) := by decide +kernel
theorem dX13_readBurn_133 : decode cX13_readBurn 133 = .ok (.aload_n 0, 1) := by decide +kernel
theorem dX13_readBurn_134 : decode cX13_readBurn 134 = .ok (.invokevirtual 226, 3) := by decide +kernel
theorem dX13_readBurn_137 : decode cX13_readBurn 137 = .ok (.iconst 1, 1) := by decide +kernel
theorem dX13_readBurn_138 : decode cX13_readBurn 138 = .ok (.ireturn, 1) := by decide +kernel
set_option maxRecDepth 100000 in
theorem s_mReadBurn (l : Launch) (dd : Nat) (mo : Nat) (e : Nat → Nat) (g : Nat → Int32) (w : Int64) (n L : Nat) (bt : Nat → Nat) (t : zTk) (tk : Nat) (D : zYd) (rf : Nat → Int32) (rn : Nat → Int64) (hd : 4 ≤ dd) (hn : n ≤ 740) (hL : L ≤ 740) (hbt : ∀ j, bt j < 256) (h3 : g 3 = nI n) (h4 : g 4 = nI L) (hT : mTk n L t g w) (hW : tW n L t) (hO : tOK t) (hD : yI D) (hRd : rdR D g rf rn) (hk2 : t.1 = 2) : zSp l mX13_readBurn dd 0 0 [.ref mo] [(mo, .inr (11, fMo e g w)), ((e 1), .inl (0, 740, .inl (nF bt))), ((e 15), .inl (0, 200, .inl rf)), ((e 19), .inl (2, 12, .inr (.inl rn)))] (fun r K' => ((pBurn bt n L t tk D).1 = 0 ∧ r = some (.int 1) ∧ ∃ g' w' rf' rn', mFr [5, 6, 7, 8, 9, 13, 23] g g' ∧ mTk n L (pBurn bt n L t tk D).2.1 g' w' ∧ tW n L (pBurn bt n L t tk D).2.1 ∧ rdR (pBurn bt n L t tk D).2.2.2 g' rf' rn' ∧ K' = [(mo, .inr (11, fMo e g' w'))] ++ ([((e 1), .inl (0, 740, .inl (nF bt)))] ++ ([((e 15), .inl (0, 200, .inl rf'))] ++ [((e 19), .inl (2, 12, .inr (.inl rn')))]))) ∨ (¬ (pBurn bt n L t tk D).1 = 0 ∧ r = some (.int 0) ∧ ∃ g' w' rf' rn', mFr [5, 6, 7, 8, 9, 10, 11, 13, 23] g g' ∧ g' 10 = nI (pBurn bt n L t tk D).1 ∧ g' 11 = nI (pBurn bt n L t tk D).2.1.2.1 ∧ K' = [(mo, .inr (11, fMo e g' w'))] ++ ([((e 1), .inl (0, 740, .inl (nF bt)))] ++ ([((e 15), .inl (0, 200, .inl rf'))] ++ [((e 19), .inl (2, 12, .inr (.inl rn')))])))) := by
  refine zSp.of (by decide) (Nat.le_of_ble_eq_true rfl) (fun h0 => ?_)
  show zS _ 0 0 0 [(0, .ref mo)] [] [(mo, .inr (11, fMo e g w)), ((e 1), .inl (0, 740, .inl (nF bt))), ((e 15), .inl (0, 200, .inl rf)), ((e 19), .inl (2, 12, .inr (.inl rn)))]
  have h15 := hD.2.2.1
  have h14 := hD.2.1
  refine zs_aload_n dX13_readBurn_0 rfl rfl ?_
  refine zs_callV (M := mX13_go) (As := []) (st := []) (Kc := [(mo, .inr (11, fMo e g w)), ((e 1), .inl (0, 740, .inl (nF bt)))]) (Kr := [((e 15), .inl (0, 200, .inl rf)), ((e 19), .inl (2, 12, .inr (.inl rn)))]) [0, 1] [2, 3] 0 dX13_readBurn_1 zl_RX13_226 kX13_go rfl rfl rfl rfl rfl (by decide) rfl rfl (show dd - 1 + 1 ≤ dd by omega) (Nat.zero_le _) (Nat.zero_le _) (Nat.le_of_ble_eq_true rfl) (s_mGoT l (dd - 1) mo e g w n L bt t (by omega) hn hL hbt h3 h4 hT hW (show ¬ t.1 = 0 by omega)) (fun r K1 hr => ?_)
  obtain ⟨rfl, g1, w1, hfr1, hT1, rfl⟩ := hr
  refine zs_K (K' := [(mo, .inr (11, fMo e g1 w1)), ((e 1), .inl (0, 740, .inl (nF bt))), ((e 15), .inl (0, 200, .inl rf)), ((e 19), .inl (2, 12, .inr (.inl rn)))]) [2, 3, 0, 1] rfl (by decide) ?_
  have fr1 : mFr [5, 6, 7, 8, 9, 13, 23] g g1 := mFr_t (mFr_r : mFr [5, 6, 7, 8, 9, 13, 23] g g) hfr1 (by decide) (by decide)
  have h3_1 : g1 3 = nI n := (hfr1 3 (by decide)).trans h3
  have h4_1 : g1 4 = nI L := (hfr1 4 (by decide)).trans h4
  have h23_1 : g1 23 = g 23 := hfr1 23 (by decide)
  have hO_1 := nxt_OK (L := L) (τ := t) hbt hn
  have h14_1 := hO_1.1
  have hkd_1 := mKd_4 (n := n) (L := L) hO_1.1
  refine zs_aload_n dX13_readBurn_4 rfl rfl ?_
  refine zs_iconst (v := nI 0) dX13_readBurn_5 (by decide) ?_
  refine zs_aload_n dX13_readBurn_6 rfl rfl ?_
  refine zs_get 0 dX13_readBurn_7 zf_RX13_16 rfl (v := .ref (e 15)) rfl ?_
  refine zs_bipush (v := nI 9) dX13_readBurn_10 (by decide) ?_
  refine zs_iald 2 dX13_readBurn_12 rfl (vp_in_nI (by omega) (by omega)) ?_
  refine zs_as (y := nI (D.1 14)) (by rw [nI_c (n := 9) (by omega)]; exact hRd.1.2.2.2.2.2.2.2.2.2.1) ?_
  refine zs_iconst (v := nI 1) dX13_readBurn_13 (by decide) ?_
  refine zs_isub dX13_readBurn_14 ?_
  refine zs_as (y := pC1 (D.1 14)) rfl ?_
  refine zs_callV (M := mX13_readNumber) (As := [.int (nI 0), .int (pC1 (D.1 14))]) (st := []) (Kc := [(mo, .inr (11, fMo e g1 w1)), ((e 1), .inl (0, 740, .inl (nF bt)))]) (Kr := [((e 15), .inl (0, 200, .inl rf)), ((e 19), .inl (2, 12, .inr (.inl rn)))]) [0, 1] [2, 3] 0 dX13_readBurn_15 zl_RX13_251 kX13_readNumber rfl rfl rfl rfl rfl (by decide) rfl rfl (show dd - 1 + 1 ≤ dd by omega) (Nat.zero_le _) (Nat.zero_le _) (Nat.le_of_ble_eq_true rfl) (s_mReadNumC l (dd - 1) mo e g1 w1 n L bt (nxt bt n L t) (D.1 14) (by omega) hn hL hbt h3_1 h4_1 hT1 (nxt_W (b := bt) (n := n) (L := L) (τ := t)) hO_1 (by omega)) (fun r K1 hr => ?_)
  rcases hr with ⟨hq2, rfl, g2, w2, hfr2, h13_2, hT2, rfl⟩ | ⟨hq2, rfl, rfl⟩
  · refine zs_K (K' := [(mo, .inr (11, fMo e g2 w2)), ((e 1), .inl (0, 740, .inl (nF bt))), ((e 15), .inl (0, 200, .inl rf)), ((e 19), .inl (2, 12, .inr (.inl rn)))]) [2, 3, 0, 1] rfl (by decide) ?_
    have fr2 : mFr [5, 6, 7, 8, 9, 13, 23] g g2 := mFr_t (fr1 : mFr [5, 6, 7, 8, 9, 13, 23] g g1) hfr2 (by decide) (by decide)
    have h3_2 : g2 3 = nI n := (hfr2 3 (by decide)).trans h3_1
    have h4_2 : g2 4 = nI L := (hfr2 4 (by decide)).trans h4_1
    have h23_2 : g2 23 = g1 23 := hfr2 23 (by decide)
    have hO_2 := nxt_OK (L := L) (τ := (nxt bt n L t)) hbt hn
    have h14_2 := hO_2.1
    have hkd_2 := mKd_4 (n := n) (L := L) hO_2.1
    have hr2 := tNuC_r hq2
    refine zs_if_ne (tgt := 23) dX13_readBurn_18 (by decide) (fun c_1 => ?_) (fun c_1 => (by first | exact absurd c_1 (by decide) | exact absurd (by decide) c_1 : False).elim)
    refine zs_aload_n dX13_readBurn_23 rfl rfl ?_
    refine zs_get 0 dX13_readBurn_24 zf_RX13_223 rfl (v := .int (g2 13)) rfl ?_
    refine zs_as (y := nI (nxt bt n L t).2.2.2.1) h13_2 ?_
    refine zs_istore_n (lv' := [(1, .int (nI (nxt bt n L t).2.2.2.1)), (0, .ref mo)]) dX13_readBurn_27 (Nat.le_of_ble_eq_true rfl) rfl ?_
    refine zs_aload_n dX13_readBurn_28 rfl rfl ?_
    refine zs_get 0 dX13_readBurn_29 zf_RX13_170 rfl (v := .int (g2 7)) rfl ?_
    refine zs_as (y := nI (mKd n L (nxt bt n L (nxt bt n L t)))) (mTk_7 hT2) ?_
    refine zs_iconst (v := nI 3) dX13_readBurn_32 (by decide) ?_
    refine zs_icmp_eq (tgt := 42) dX13_readBurn_33 (by decide) (fun c_2 => ?_) (fun c_2 => ?_)
    · have c_2 : (mKd n L (nxt bt n L (nxt bt n L t))) = 3 := by have hc := c_2; rw [nI_eq' (by omega) (by omega)] at hc; exact hc
      have hk32 : (nxt bt n L (nxt bt n L t)).1 = 3 := (mKd_n (by decide)).mp c_2
      have hv2 := hO_2.2.2.2.2.1 hk32
      refine zs_aload_n dX13_readBurn_42 rfl rfl ?_
      refine zs_get 0 dX13_readBurn_43 zf_RX13_187 rfl (v := .int (g2 8)) rfl ?_
      refine zs_as (y := nI (nxt bt n L (nxt bt n L t)).2.2.2.1) (hT2.2.2.1 hk32) ?_
      refine zs_aload_n dX13_readBurn_46 rfl rfl ?_
      refine zs_get 0 dX13_readBurn_47 zf_RX13_16 rfl (v := .ref (e 15)) rfl ?_
      refine zs_bipush (v := nI 10) dX13_readBurn_50 (by decide) ?_
      refine zs_iald 2 dX13_readBurn_52 rfl (vp_in_nI (by omega) (by omega)) ?_
      refine zs_as (y := nI (D.1 15)) (by rw [nI_c (n := 10) (by omega)]; exact hRd.1.2.2.2.2.2.2.2.2.2.2.1) ?_
      refine zs_icmp_ge (tgt := 81) dX13_readBurn_53 (by decide) (fun c_3 => ?_) (fun c_3 => ?_)
      · have c_3 : (D.1 15) ≤ ((nxt bt n L (nxt bt n L t)).2.2.2.1) := by have hc := c_3; rw [nI_le' (by omega) (by omega)] at hc; exact hc
        refine zs_aload_n dX13_readBurn_81 rfl rfl ?_
        refine zs_iconst (v := nI 2) dX13_readBurn_82 (by decide) ?_
        refine zs_callV (M := mX13_bad) (As := [.int (nI 2)]) (st := []) (Kc := [(mo, .inr (11, fMo e g2 w2))]) (Kr := [((e 1), .inl (0, 740, .inl (nF bt))), ((e 15), .inl (0, 200, .inl rf)), ((e 19), .inl (2, 12, .inr (.inl rn)))]) [0] [1, 2, 3] 0 dX13_readBurn_83 zl_RX13_216 kX13_bad rfl rfl rfl rfl rfl (by decide) rfl rfl (show dd - 1 + 1 ≤ dd by omega) (Nat.zero_le _) (Nat.zero_le _) (Nat.le_of_ble_eq_true rfl) (s_mBad l (dd - 1) mo e g2 w2 n L (nxt bt n L (nxt bt n L t)) 2 hT2 (nxt_W (b := bt) (n := n) (L := L) (τ := (nxt bt n L t))) hO_2) (fun r K1 hr => ?_)
        rw [mBad_e (by first | (intro; rfl) | (intro h; unfold mKd at h; split at h <;> omega))] at hr
        obtain ⟨rfl, rfl⟩ := hr
        refine zs_K (K' := [(mo, .inr (11, fMo e (mFa g2 2 (nxt bt n L (nxt bt n L t))) w2)), ((e 1), .inl (0, 740, .inl (nF bt))), ((e 15), .inl (0, 200, .inl rf)), ((e 19), .inl (2, 12, .inr (.inl rn)))]) [3, 0, 1, 2] rfl (by decide) ?_
        have e1 : (pBurn bt n L t tk D).1 = 2 ∧ (pBurn bt n L t tk D).2.1 = (nxt bt n L (nxt bt n L t)) := by rw [pBurn, if_neg (fun h => h hq2), if_neg (fun h => h hk32), if_pos (show D.1 15 ≤ (nxt bt n L (nxt bt n L t)).2.2.2.1 by omega)]; exact ⟨rfl, rfl⟩
        exact zs_zret dX13_readBurn_86 rfl (Or.inl rfl) (Or.inr ⟨by rw [e1.1]; exact (show ¬ 2 = 0 by decide), rfl, mFa g2 2 (nxt bt n L (nxt bt n L t)), w2, rf, rn, mFr_fa fr2 (by decide) (by decide), by rw [e1.1]; rfl, by rw [e1.2]; rfl, rfl⟩)
      · have c_3 : ¬ ((D.1 15) ≤ ((nxt bt n L (nxt bt n L t)).2.2.2.1)) := by have hc := c_3; rw [nI_le' (by omega) (by omega)] at hc; exact hc
        have hcm := Nat.mul_comm (D.1 14) (nxt bt n L (nxt bt n L t)).2.2.2.1
        have hidx : ((nxt bt n L (nxt bt n L t)).2.2.2.1 * D.1 14 + (nxt bt n L t).2.2.2.1) < 64 := by
          have h1 := Nat.mul_le_mul_right (D.1 14) (show (nxt bt n L (nxt bt n L t)).2.2.2.1 + 1 ≤ 8 by omega)
          rw [Nat.add_mul, Nat.one_mul] at h1
          omega
        have hcc := hRd.1.2.2.2.2.2.2.2.2.2.2.2.2.2 ((nxt bt n L (nxt bt n L t)).2.2.2.1 * D.1 14 + (nxt bt n L t).2.2.2.1) hidx
        have hf9 := hD.2.2.2.2.1 ((nxt bt n L (nxt bt n L t)).2.2.2.1 * D.1 14 + (nxt bt n L t).2.2.2.1)
        have hb1 := hD.2.2.2.2.2.1 ((nxt bt n L (nxt bt n L t)).2.2.2.1 * D.1 14 + (nxt bt n L t).2.2.2.1)
        refine zs_aload_n dX13_readBurn_56 rfl rfl ?_
        refine zs_get 0 dX13_readBurn_57 zf_RX13_16 rfl (v := .ref (e 15)) rfl ?_
        refine zs_bipush (v := nI 60) dX13_readBurn_60 (by decide) ?_
        refine zs_aload_n dX13_readBurn_62 rfl rfl ?_
        refine zs_get 0 dX13_readBurn_63 zf_RX13_16 rfl (v := .ref (e 15)) rfl ?_
        refine zs_bipush (v := nI 9) dX13_readBurn_66 (by decide) ?_
        refine zs_iald 2 dX13_readBurn_68 rfl (vp_in_nI (by omega) (by omega)) ?_
        refine zs_as (y := nI (D.1 14)) (by rw [nI_c (n := 9) (by omega)]; exact hRd.1.2.2.2.2.2.2.2.2.2.1) ?_
        refine zs_aload_n dX13_readBurn_69 rfl rfl ?_
        refine zs_get 0 dX13_readBurn_70 zf_RX13_187 rfl (v := .int (g2 8)) rfl ?_
        refine zs_as (y := nI (nxt bt n L (nxt bt n L t)).2.2.2.1) (hT2.2.2.1 hk32) ?_
        refine zs_imul dX13_readBurn_73 ?_
        refine zs_as (y := nI ((D.1 14) * ((nxt bt n L (nxt bt n L t)).2.2.2.1))) (nI_mul _ _) ?_
        refine zs_iadd dX13_readBurn_74 ?_
        refine zs_as (y := nI (60 + ((D.1 14) * ((nxt bt n L (nxt bt n L t)).2.2.2.1)))) (nI_add _ _) ?_
        refine zs_iload_n dX13_readBurn_75 rfl ?_
        refine zs_iadd dX13_readBurn_76 ?_
        refine zs_as (y := nI ((60 + ((D.1 14) * ((nxt bt n L (nxt bt n L t)).2.2.2.1))) + ((nxt bt n L t).2.2.2.1))) (nI_add _ _) ?_
        refine zs_iald 2 dX13_readBurn_77 rfl (vp_in_nI (by omega) (by omega)) ?_
        refine zs_as (y := nI (D.2.2.2.2.2.2.1 ((nxt bt n L (nxt bt n L t)).2.2.2.1 * D.1 14 + (nxt bt n L t).2.2.2.1))) (by rw [nI_c (by omega), show 60 + D.1 14 * (nxt bt n L (nxt bt n L t)).2.2.2.1 + (nxt bt n L t).2.2.2.1 = 60 + ((nxt bt n L (nxt bt n L t)).2.2.2.1 * D.1 14 + (nxt bt n L t).2.2.2.1) by omega]; exact hcc.1) ?_
        refine zs_if_ne (tgt := 87) dX13_readBurn_78 (by decide) (fun c_4 => ?_) (fun c_4 => ?_)
        · have c_4 : ¬ ((D.2.2.2.2.2.2.1 ((nxt bt n L (nxt bt n L t)).2.2.2.1 * D.1 14 + (nxt bt n L t).2.2.2.1)) = 0) := by have hc := c_4; rw [show (0 : Int32) = nI 0 from rfl] at hc; rw [nI_eq' (by omega) (by omega)] at hc; exact hc
          refine zs_aload_n dX13_readBurn_87 rfl rfl ?_
          refine zs_get 0 dX13_readBurn_88 zf_RX13_16 rfl (v := .ref (e 15)) rfl ?_
          refine zs_bipush (v := nI 9) dX13_readBurn_91 (by decide) ?_
          refine zs_iald 2 dX13_readBurn_93 rfl (vp_in_nI (by omega) (by omega)) ?_
          refine zs_as (y := nI (D.1 14)) (by rw [nI_c (n := 9) (by omega)]; exact hRd.1.2.2.2.2.2.2.2.2.2.1) ?_
          refine zs_aload_n dX13_readBurn_94 rfl rfl ?_
          refine zs_get 0 dX13_readBurn_95 zf_RX13_187 rfl (v := .int (g2 8)) rfl ?_
          refine zs_as (y := nI (nxt bt n L (nxt bt n L t)).2.2.2.1) (hT2.2.2.1 hk32) ?_
          refine zs_imul dX13_readBurn_98 ?_
          refine zs_as (y := nI ((D.1 14) * ((nxt bt n L (nxt bt n L t)).2.2.2.1))) (nI_mul _ _) ?_
          refine zs_iload_n dX13_readBurn_99 rfl ?_
          refine zs_iadd dX13_readBurn_100 ?_
          refine zs_as (y := nI (((D.1 14) * ((nxt bt n L (nxt bt n L t)).2.2.2.1)) + ((nxt bt n L t).2.2.2.1))) (nI_add _ _) ?_
          refine zs_istore_n (lv' := [(2, .int (nI (((D.1 14) * ((nxt bt n L (nxt bt n L t)).2.2.2.1)) + ((nxt bt n L t).2.2.2.1)))), (1, .int (nI (nxt bt n L t).2.2.2.1)), (0, .ref mo)]) dX13_readBurn_101 (Nat.le_of_ble_eq_true rfl) rfl ?_
          refine zs_aload_n dX13_readBurn_102 rfl rfl ?_
          refine zs_get 0 dX13_readBurn_103 zf_RX13_16 rfl (v := .ref (e 15)) rfl ?_
          refine zs_sipush (v := nI 130) dX13_readBurn_106 (by decide) ?_
          refine zs_iload_n dX13_readBurn_109 rfl ?_
          refine zs_iadd dX13_readBurn_110 ?_
          refine zs_as (y := nI (130 + (((D.1 14) * ((nxt bt n L (nxt bt n L t)).2.2.2.1)) + ((nxt bt n L t).2.2.2.1)))) (nI_add _ _) ?_
          refine zs_iald 2 dX13_readBurn_111 rfl (vp_in_nI (by omega) (by omega)) ?_
          refine zs_as (y := nI (D.2.2.2.2.2.2.2 ((nxt bt n L (nxt bt n L t)).2.2.2.1 * D.1 14 + (nxt bt n L t).2.2.2.1))) (by rw [nI_c (by omega), show 130 + (D.1 14 * (nxt bt n L (nxt bt n L t)).2.2.2.1 + (nxt bt n L t).2.2.2.1) = 130 + ((nxt bt n L (nxt bt n L t)).2.2.2.1 * D.1 14 + (nxt bt n L t).2.2.2.1) by omega]; exact hcc.2) ?_
          refine zs_iconst (v := nI 1) dX13_readBurn_112 (by decide) ?_
          refine zs_icmp_ne (tgt := 122) dX13_readBurn_113 (by decide) (fun c_5 => ?_) (fun c_5 => ?_)
          · have c_5 : ¬ ((D.2.2.2.2.2.2.2 ((nxt bt n L (nxt bt n L t)).2.2.2.1 * D.1 14 + (nxt bt n L t).2.2.2.1)) = 1) := by have hc := c_5; rw [nI_eq' (by omega) (by omega)] at hc; exact hc
            refine zs_aload_n dX13_readBurn_122 rfl rfl ?_
            refine zs_get 0 dX13_readBurn_123 zf_RX13_16 rfl (v := .ref (e 15)) rfl ?_
            refine zs_sipush (v := nI 130) dX13_readBurn_126 (by decide) ?_
            refine zs_iload_n dX13_readBurn_129 rfl ?_
            refine zs_iadd dX13_readBurn_130 ?_
            refine zs_as (y := nI (130 + (((D.1 14) * ((nxt bt n L (nxt bt n L t)).2.2.2.1)) + ((nxt bt n L t).2.2.2.1)))) (nI_add _ _) ?_
            refine zs_iconst (v := nI 1) dX13_readBurn_131 (by decide) ?_
            refine zs_iast 2 dX13_readBurn_132 rfl (vp_in_nI (by omega) (by omega)) ?_
            rw [nI_c (n := 130 + (((D.1 14) * ((nxt bt n L (nxt bt n L t)).2.2.2.1)) + ((nxt bt n L t).2.2.2.1))) (by omega)]
            show zS _ _ _ _ _ _ [(mo, .inr (11, fMo e g2 w2)), ((e 1), .inl (0, 740, .inl (nF bt))), ((e 15), .inl (0, 200, .inl (upd rf (130 + (((D.1 14) * ((nxt bt n L (nxt bt n L t)).2.2.2.1)) + ((nxt bt n L t).2.2.2.1))) (nI 1)))), ((e 19), .inl (2, 12, .inr (.inl rn)))]
            refine zs_aload_n dX13_readBurn_133 rfl rfl ?_
            refine zs_callV (M := mX13_go) (As := []) (st := []) (Kc := [(mo, .inr (11, fMo e g2 w2)), ((e 1), .inl (0, 740, .inl (nF bt)))]) (Kr := [((e 15), .inl (0, 200, .inl (upd rf (130 + (((D.1 14) * ((nxt bt n L (nxt bt n L t)).2.2.2.1)) + ((nxt bt n L t).2.2.2.1))) (nI 1)))), ((e 19), .inl (2, 12, .inr (.inl rn)))]) [0, 1] [2, 3] 0 dX13_readBurn_134 zl_RX13_226 kX13_go rfl rfl rfl rfl rfl (by decide) rfl rfl (show dd - 1 + 1 ≤ dd by omega) (Nat.zero_le _) (Nat.zero_le _) (Nat.le_of_ble_eq_true rfl) (s_mGoT l (dd - 1) mo e g2 w2 n L bt (nxt bt n L (nxt bt n L t)) (by omega) hn hL hbt h3_2 h4_2 hT2 (nxt_W (b := bt) (n := n) (L := L) (τ := (nxt bt n L t))) (show ¬ (nxt bt n L (nxt bt n L t)).1 = 0 by omega)) (fun r K1 hr => ?_)
            obtain ⟨rfl, g3, w3, hfr3, hT3, rfl⟩ := hr
            refine zs_K (K' := [(mo, .inr (11, fMo e g3 w3)), ((e 1), .inl (0, 740, .inl (nF bt))), ((e 15), .inl (0, 200, .inl (upd rf (130 + (((D.1 14) * ((nxt bt n L (nxt bt n L t)).2.2.2.1)) + ((nxt bt n L t).2.2.2.1))) (nI 1)))), ((e 19), .inl (2, 12, .inr (.inl rn)))]) [2, 3, 0, 1] rfl (by decide) ?_
            have fr3 : mFr [5, 6, 7, 8, 9, 13, 23] g g3 := mFr_t (fr2 : mFr [5, 6, 7, 8, 9, 13, 23] g g2) hfr3 (by decide) (by decide)
            have h3_3 : g3 3 = nI n := (hfr3 3 (by decide)).trans h3_2
            have h4_3 : g3 4 = nI L := (hfr3 4 (by decide)).trans h4_2
            have h23_3 : g3 23 = g2 23 := hfr3 23 (by decide)
            have hO_3 := nxt_OK (L := L) (τ := (nxt bt n L (nxt bt n L t))) hbt hn
            have h14_3 := hO_3.1
            have hkd_3 := mKd_4 (n := n) (L := L) hO_3.1
            refine zs_iconst (v := nI 1) dX13_readBurn_137 (by decide) ?_
            have hyb := yR_yb (c := ((nxt bt n L (nxt bt n L t)).2.2.2.1 * D.1 14 + (nxt bt n L t).2.2.2.1)) (v := 1) hD.1 (by omega) hRd.1
            rw [show 130 + ((nxt bt n L (nxt bt n L t)).2.2.2.1 * D.1 14 + (nxt bt n L t).2.2.2.1) = 130 + (D.1 14 * (nxt bt n L (nxt bt n L t)).2.2.2.1 + (nxt bt n L t).2.2.2.1) by omega] at hyb
            have er : (pBurn bt n L t tk D) = (0, (nxt bt n L (nxt bt n L (nxt bt n L t))), (nxt bt n L t).2.2.2.1, (D.1, D.2.1, D.2.2.1, D.2.2.2.1, D.2.2.2.2.1, D.2.2.2.2.2.1, D.2.2.2.2.2.2.1, un D.2.2.2.2.2.2.2 ((nxt bt n L (nxt bt n L t)).2.2.2.1 * D.1 14 + (nxt bt n L t).2.2.2.1) 1)) := by rw [pBurn, if_neg (fun h => h hq2), if_neg (fun h => h hk32), if_neg (show ¬ D.1 15 ≤ (nxt bt n L (nxt bt n L t)).2.2.2.1 by omega), if_neg c_4, if_neg (fun h => h (show D.2.2.2.2.2.2.2 ((nxt bt n L (nxt bt n L t)).2.2.2.1 * D.1 14 + (nxt bt n L t).2.2.2.1) = 0 by omega))] <;> rfl
            exact zs_zret dX13_readBurn_138 rfl (Or.inr rfl) (Or.inl ⟨by rw [er], rfl, g3, w3, (upd rf (130 + (((D.1 14) * ((nxt bt n L (nxt bt n L t)).2.2.2.1)) + ((nxt bt n L t).2.2.2.1))) (nI 1)), rn, fr3, by rw [er]; exact hT3, by rw [er]; exact nxt_W, by rw [er]; exact ⟨hyb, fun j hj => hRd.2.1 j hj, (h23_3.trans (h23_2.trans h23_1)).trans hRd.2.2⟩, rfl⟩)
          · have c_5 : (D.2.2.2.2.2.2.2 ((nxt bt n L (nxt bt n L t)).2.2.2.1 * D.1 14 + (nxt bt n L t).2.2.2.1)) = 1 := by have hc := c_5; rw [nI_eq' (by omega) (by omega)] at hc; exact hc
            refine zs_aload_n dX13_readBurn_116 rfl rfl ?_
            refine zs_iconst (v := nI 3) dX13_readBurn_117 (by decide) ?_
            refine zs_callV (M := mX13_bad) (As := [.int (nI 3)]) (st := []) (Kc := [(mo, .inr (11, fMo e g2 w2))]) (Kr := [((e 1), .inl (0, 740, .inl (nF bt))), ((e 15), .inl (0, 200, .inl rf)), ((e 19), .inl (2, 12, .inr (.inl rn)))]) [0] [1, 2, 3] 0 dX13_readBurn_118 zl_RX13_216 kX13_bad rfl rfl rfl rfl rfl (by decide) rfl rfl (show dd - 1 + 1 ≤ dd by omega) (Nat.zero_le _) (Nat.zero_le _) (Nat.le_of_ble_eq_true rfl) (s_mBad l (dd - 1) mo e g2 w2 n L (nxt bt n L (nxt bt n L t)) 3 hT2 (nxt_W (b := bt) (n := n) (L := L) (τ := (nxt bt n L t))) hO_2) (fun r K1 hr => ?_)
            rw [mBad_e (by first | (intro; rfl) | (intro h; unfold mKd at h; split at h <;> omega))] at hr
            obtain ⟨rfl, rfl⟩ := hr
            refine zs_K (K' := [(mo, .inr (11, fMo e (mFa g2 3 (nxt bt n L (nxt bt n L t))) w2)), ((e 1), .inl (0, 740, .inl (nF bt))), ((e 15), .inl (0, 200, .inl rf)), ((e 19), .inl (2, 12, .inr (.inl rn)))]) [3, 0, 1, 2] rfl (by decide) ?_
            have e1 : (pBurn bt n L t tk D).1 = 3 ∧ (pBurn bt n L t tk D).2.1 = (nxt bt n L (nxt bt n L t)) := by rw [pBurn, if_neg (fun h => h hq2), if_neg (fun h => h hk32), if_neg (show ¬ D.1 15 ≤ (nxt bt n L (nxt bt n L t)).2.2.2.1 by omega), if_neg c_4, if_pos (show ¬ D.2.2.2.2.2.2.2 ((nxt bt n L (nxt bt n L t)).2.2.2.1 * D.1 14 + (nxt bt n L t).2.2.2.1) = 0 by omega)]; exact ⟨rfl, rfl⟩
            exact zs_zret dX13_readBurn_121 rfl (Or.inl rfl) (Or.inr ⟨by rw [e1.1]; exact (show ¬ 3 = 0 by decide), rfl, mFa g2 3 (nxt bt n L (nxt bt n L t)), w2, rf, rn, mFr_fa fr2 (by decide) (by decide), by rw [e1.1]; rfl, by rw [e1.2]; rfl, rfl⟩)
        · have c_4 : (D.2.2.2.2.2.2.1 ((nxt bt n L (nxt bt n L t)).2.2.2.1 * D.1 14 + (nxt bt n L t).2.2.2.1)) = 0 := by have hc := c_4; rw [show (0 : Int32) = nI 0 from rfl] at hc; rw [nI_eq' (by omega) (by omega)] at hc; exact hc
          refine zs_aload_n dX13_readBurn_81 rfl rfl ?_
          refine zs_iconst (v := nI 2) dX13_readBurn_82 (by decide) ?_
          refine zs_callV (M := mX13_bad) (As := [.int (nI 2)]) (st := []) (Kc := [(mo, .inr (11, fMo e g2 w2))]) (Kr := [((e 1), .inl (0, 740, .inl (nF bt))), ((e 15), .inl (0, 200, .inl rf)), ((e 19), .inl (2, 12, .inr (.inl rn)))]) [0] [1, 2, 3] 0 dX13_readBurn_83 zl_RX13_216 kX13_bad rfl rfl rfl rfl rfl (by decide) rfl rfl (show dd - 1 + 1 ≤ dd by omega) (Nat.zero_le _) (Nat.zero_le _) (Nat.le_of_ble_eq_true rfl) (s_mBad l (dd - 1) mo e g2 w2 n L (nxt bt n L (nxt bt n L t)) 2 hT2 (nxt_W (b := bt) (n := n) (L := L) (τ := (nxt bt n L t))) hO_2) (fun r K1 hr => ?_)
          rw [mBad_e (by first | (intro; rfl) | (intro h; unfold mKd at h; split at h <;> omega))] at hr
          obtain ⟨rfl, rfl⟩ := hr
          refine zs_K (K' := [(mo, .inr (11, fMo e (mFa g2 2 (nxt bt n L (nxt bt n L t))) w2)), ((e 1), .inl (0, 740, .inl (nF bt))), ((e 15), .inl (0, 200, .inl rf)), ((e 19), .inl (2, 12, .inr (.inl rn)))]) [3, 0, 1, 2] rfl (by decide) ?_
          have e1 : (pBurn bt n L t tk D).1 = 2 ∧ (pBurn bt n L t tk D).2.1 = (nxt bt n L (nxt bt n L t)) := by rw [pBurn, if_neg (fun h => h hq2), if_neg (fun h => h hk32), if_neg (show ¬ D.1 15 ≤ (nxt bt n L (nxt bt n L t)).2.2.2.1 by omega), if_pos c_4]; exact ⟨rfl, rfl⟩
          exact zs_zret dX13_readBurn_86 rfl (Or.inl rfl) (Or.inr ⟨by rw [e1.1]; exact (show ¬ 2 = 0 by decide), rfl, mFa g2 2 (nxt bt n L (nxt bt n L t)), w2, rf, rn, mFr_fa fr2 (by decide) (by decide), by rw [e1.1]; rfl, by rw [e1.2]; rfl, rfl⟩)
    · have c_2 : ¬ ((mKd n L (nxt bt n L (nxt bt n L t))) = 3) := by have hc := c_2; rw [nI_eq' (by omega) (by omega)] at hc; exact hc
      refine zs_aload_n dX13_readBurn_36 rfl rfl ?_
      refine zs_iconst (v := nI 1) dX13_readBurn_37 (by decide) ?_
      refine zs_callV (M := mX13_bad) (As := [.int (nI 1)]) (st := []) (Kc := [(mo, .inr (11, fMo e g2 w2))]) (Kr := [((e 1), .inl (0, 740, .inl (nF bt))), ((e 15), .inl (0, 200, .inl rf)), ((e 19), .inl (2, 12, .inr (.inl rn)))]) [0] [1, 2, 3] 0 dX13_readBurn_38 zl_RX13_216 kX13_bad rfl rfl rfl rfl rfl (by decide) rfl rfl (show dd - 1 + 1 ≤ dd by omega) (Nat.zero_le _) (Nat.zero_le _) (Nat.le_of_ble_eq_true rfl) (s_mBad l (dd - 1) mo e g2 w2 n L (nxt bt n L (nxt bt n L t)) 1 hT2 (nxt_W (b := bt) (n := n) (L := L) (τ := (nxt bt n L t))) hO_2) (fun r K1 hr => ?_)
      rw [mBad_e (by first | (intro; rfl) | (intro h; unfold mKd at h; split at h <;> omega))] at hr
      obtain ⟨rfl, rfl⟩ := hr
      refine zs_K (K' := [(mo, .inr (11, fMo e (mFa g2 1 (nxt bt n L (nxt bt n L t))) w2)), ((e 1), .inl (0, 740, .inl (nF bt))), ((e 15), .inl (0, 200, .inl rf)), ((e 19), .inl (2, 12, .inr (.inl rn)))]) [3, 0, 1, 2] rfl (by decide) ?_
      have e1 : (pBurn bt n L t tk D).1 = 1 ∧ (pBurn bt n L t tk D).2.1 = (nxt bt n L (nxt bt n L t)) := by rw [pBurn, if_neg (fun h => h hq2), if_pos (show ¬ (nxt bt n L (nxt bt n L t)).1 = 3 from fun h => c_2 ((mKd_n (by decide)).mpr h))]; exact ⟨rfl, rfl⟩
      exact zs_zret dX13_readBurn_41 rfl (Or.inl rfl) (Or.inr ⟨by rw [e1.1]; exact (show ¬ 1 = 0 by decide), rfl, mFa g2 1 (nxt bt n L (nxt bt n L t)), w2, rf, rn, mFr_fa fr2 (by decide) (by decide), by rw [e1.1]; rfl, by rw [e1.2]; rfl, rfl⟩)
  · refine zs_K (K' := [(mo, .inr (11, fMo e (mFa g1 (tNuC (nxt bt n L t) (D.1 14)) (nxt bt n L t)) w1)), ((e 1), .inl (0, 740, .inl (nF bt))), ((e 15), .inl (0, 200, .inl rf)), ((e 19), .inl (2, 12, .inr (.inl rn)))]) [2, 3, 0, 1] rfl (by decide) ?_
    refine zs_if_ne (tgt := 23) dX13_readBurn_18 (by decide) (fun c_6 => (by first | exact absurd c_6 (by decide) | exact absurd (by decide) c_6 : False).elim) (fun c_6 => ?_)
    refine zs_iconst (v := nI 0) dX13_readBurn_21 (by decide) ?_
    have e1 : (pBurn bt n L t tk D).1 = (tNuC (nxt bt n L t) (D.1 14)) ∧ (pBurn bt n L t tk D).2.1 = (nxt bt n L t) := by rw [pBurn, if_pos hq2]; exact ⟨rfl, rfl⟩
    exact zs_zret dX13_readBurn_22 rfl (Or.inl rfl) (Or.inr ⟨by rw [e1.1]; exact hq2, rfl, mFa g1 (tNuC (nxt bt n L t) (D.1 14)) (nxt bt n L t), w1, rf, rn, mFr_fa fr1 (by decide) (by decide), by rw [e1.1]; rfl, by rw [e1.2]; rfl, rfl⟩)
