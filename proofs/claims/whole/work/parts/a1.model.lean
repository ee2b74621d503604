/-! ===== the reference: ones, joints, brackets of a sentence ===== -/
theorem dX13_readNot_0 : decode cX13_readNot 0 = .ok (.aload_n 0, 1) := by decide +kernel
theorem dX13_readNot_1 : decode cX13_readNot 1 = .ok (.invokevirtual 515, 3) := by decide +kernel
theorem dX13_readNot_4 : decode cX13_readNot 4 = .ok (.ifCond .ne 5, 3) := by decide +kernel
theorem dX13_readNot_7 : decode cX13_readNot 7 = .ok (.iconst 0, 1) := by decide +kernel
theorem dX13_readNot_8 : decode cX13_readNot 8 = .ok (.ireturn, 1) := by decide +kernel
theorem dX13_readNot_9 : decode cX13_readNot 9 = .ok (.aload_n 0, 1) := by decide +kernel
theorem dX13_readNot_10 : decode cX13_readNot 10 = .ok (.aload_n 0, 1) := by decide +kernel
theorem dX13_readNot_11 : decode cX13_readNot 11 = .ok (.iconst 1, 1) := by decide +kernel
theorem dX13_readNot_12 : decode cX13_readNot 12 = .ok (.aload_n 0, 1) := by decide +kernel
theorem dX13_readNot_13 : decode cX13_readNot 13 = .ok (.getfield 509, 3) := by decide +kernel
theorem dX13_readNot_16 : decode cX13_readNot 16 = .ok (.iconst 0, 1) := by decide +kernel
theorem dX13_readNot_17 : decode cX13_readNot 17 = .ok (.iconst 0, 1) := by decide +kernel
theorem dX13_readNot_18 : decode cX13_readNot 18 = .ok (.invokevirtual 512, 3) := by decide +kernel
theorem dX13_readNot_21 : decode cX13_readNot 21 = .ok (.putfield 509, 3) := by decide +kernel
theorem dX13_readNot_24 : decode cX13_readNot 24 = .ok (.iconst 1, 1) := by decide +kernel
theorem dX13_readNot_25 : decode cX13_readNot 25 = .ok (.ireturn, 1) := by decide +kernel
set_option maxRecDepth 100000 in
theorem s_mNot (l : Launch) (dd d : Nat) (mo : Nat) (e : Nat → Nat) (n L : Nat) (bt : Nat → Nat) (hn : n ≤ 740) (hL : L ≤ 740) (hbt : ∀ j, bt j < 256) (hd : 1 ≤ dd) (f : zTk → Nat → zSe → zPs) (hfG : sG f) (hC : rCt l mX13_readOne (dd - 1) d mo e n L bt f) : rCt l mX13_readNot dd d mo e n L bt (sNt f) := fun t tk S g w nd h3 h4 hT hW hO htk hS h87 h88 h89 => by
  have hS2 := hS.2
  have hS1 := hS.1
  have h14 := hO.1
  have hkd := mKd_4 (n := n) (L := L) hO.1
  refine zSp.of (by decide) (Nat.le_of_ble_eq_true rfl) (fun h0 => ?_)
  show zS _ 0 0 0 [(0, .ref mo)] [] [(mo, .inr (11, fMo e g w)), ((e 1), .inl (0, 740, .inl (nF bt))), ((e 86), .inl (0, 240, .inl nd))]
  refine zs_aload_n dX13_readNot_0 rfl rfl ?_
  refine zs_callV (M := mX13_readOne) (As := []) (st := []) (Kc := [(mo, .inr (11, fMo e g w)), ((e 1), .inl (0, 740, .inl (nF bt))), ((e 86), .inl (0, 240, .inl nd))]) (Kr := []) [0, 1, 2] [] 0 dX13_readNot_1 zl_RX13_515 kX13_readOne rfl rfl rfl rfl rfl (by decide) rfl rfl (show dd - 1 + 1 ≤ dd by omega) (Nat.zero_le _) (Nat.zero_le _) (Nat.le_of_ble_eq_true rfl) (hC t tk S g w nd h3 h4 hT hW hO htk hS h87 h88 h89) (fun r K1 hr => ?_)
  have hR1 := hfG t tk S hO htk hS
  generalize hG1 : f t tk S = G1 at hr hR1
  rcases hr with ⟨hq1, rfl, g1, w1, nd1, hfr1, hT1, hW1, h87_1, h88_1, h90_1, hlt1, hal1, hsT1, rfl⟩ | ⟨hq1, rfl, g1, w1, nd1, hfr1, h10_1, h11_1, rfl⟩
  · have fr1 : mFr [5, 6, 7, 8, 9, 13, 87, 88, 90] g g1 := mFr_t (mFr_r : mFr [5, 6, 7, 8, 9, 13, 87, 88, 90] g g) hfr1 (by decide) (by decide)
    have hS5_1 := hR1.2.2.2.2 hq1
    have hS4_1 := hR1.2.2.2.1
    have h14_1 := hR1.1.1
    have hkd_1 := mKd_4 (n := n) (L := L) hR1.1.1
    refine zs_if_ne (tgt := 9) dX13_readNot_4 (by decide) (fun c_1 => ?_) (fun c_1 => (by first | exact absurd c_1 (by decide) | exact absurd (by decide) c_1 : False).elim)
    refine zs_aload_n dX13_readNot_9 rfl rfl ?_
    refine zs_aload_n dX13_readNot_10 rfl rfl ?_
    refine zs_iconst (v := nI 1) dX13_readNot_11 (by decide) ?_
    refine zs_aload_n dX13_readNot_12 rfl rfl ?_
    refine zs_get 0 dX13_readNot_13 zf_RX13_509 rfl (v := .int (g1 90)) rfl ?_
    refine zs_as (y := nI (G1.2.2.2.2.1 - 1)) h90_1 ?_
    refine zs_iconst (v := nI 0) dX13_readNot_16 (by decide) ?_
    refine zs_iconst (v := nI 0) dX13_readNot_17 (by decide) ?_
    refine zs_callV (M := mX13_lays) (As := [.int (nI 1), .int (nI (G1.2.2.2.2.1 - 1)), .int (nI 0), .int (nI 0)]) (st := [.ref mo]) (Kc := [(mo, .inr (11, fMo e g1 w1)), ((e 86), .inl (0, 240, .inl nd1))]) (Kr := [((e 1), .inl (0, 740, .inl (nF bt)))]) [0, 2] [1] 0 dX13_readNot_18 zl_RX13_512 kX13_lays rfl rfl rfl rfl rfl (by decide) rfl rfl (show dd - 1 + 1 ≤ dd by omega) (Nat.zero_le _) (Nat.zero_le _) (Nat.le_of_ble_eq_true rfl) (s_mLays l (dd - 1) mo e g1 w1 nd1 G1.2.2.2.2.1 (nI 1) (nI (G1.2.2.2.2.1 - 1)) (nI 0) (nI 0) (by omega) h87_1) (fun r K1 hr => ?_)
    obtain ⟨rfl, rfl⟩ := hr
    refine zs_K (K' := [(mo, .inr (11, fMo e (upd g1 87 (nI (G1.2.2.2.2.1 + 1))) w1)), ((e 1), .inl (0, 740, .inl (nF bt))), ((e 86), .inl (0, 240, .inl (nLay nd1 G1.2.2.2.2.1 (nI 1) (nI (G1.2.2.2.2.1 - 1)) (nI 0) (nI 0))))]) [1, 0, 2] rfl (by decide) ?_
    refine zs_put 0 dX13_readNot_21 zf_RX13_509 rfl (Nat.le_of_ble_eq_true rfl) (zPv_i _) ?_
    show zS _ _ _ _ _ _ [(mo, .inr (11, fMo e (upd (upd g1 87 (nI (G1.2.2.2.2.1 + 1))) 90 (nI G1.2.2.2.2.1)) w1)), ((e 1), .inl (0, 740, .inl (nF bt))), ((e 86), .inl (0, 240, .inl (nLay nd1 G1.2.2.2.2.1 (nI 1) (nI (G1.2.2.2.2.1 - 1)) (nI 0) (nI 0))))]
    refine zs_iconst (v := nI 1) dX13_readNot_24 (by decide) ?_
    have er : sNt f t tk S = (0, G1.2.1, G1.2.2.1, sAd G1.2.2.2 6 0 0) := by rw [sNt, hG1, if_pos hq1]
    exact zs_zret dX13_readNot_25 rfl (Or.inr rfl) (Or.inl ⟨by rw [er], rfl, (upd (upd g1 87 (nI (G1.2.2.2.2.1 + 1))) 90 (nI G1.2.2.2.2.1)), w1, (nLay nd1 G1.2.2.2.2.1 (nI 1) (nI (G1.2.2.2.2.1 - 1)) (nI 0) (nI 0)), mFr_u (mFr_u fr1 (by decide)) (by decide), by rw [er]; exact mTk_f hT1 rfl rfl rfl rfl rfl, by rw [er]; exact hW1, by rw [er] <;> rfl, by rw [er]; exact h88_1, by rw [er] <;> rfl, by rw [er]; exact Nat.lt_succ_of_lt hlt1, by rw [er]; exact sAl_t hal1 sAl_ad, by rw [er]; exact sT_not (by omega) hsT1, rfl⟩)
  · skip
    refine zs_if_ne (tgt := 9) dX13_readNot_4 (by decide) (fun c_2 => (by first | exact absurd c_2 (by decide) | exact absurd (by decide) c_2 : False).elim) (fun c_2 => ?_)
    refine zs_iconst (v := nI 0) dX13_readNot_7 (by decide) ?_
    have er : sNt f t tk S = G1 := by rw [sNt, hG1, if_neg hq1]
    exact zs_zret dX13_readNot_8 rfl (Or.inl rfl) (Or.inr ⟨by rw [er]; exact hq1, rfl, g1, w1, nd1, (mFr_t (mFr_r : mFr [5, 6, 7, 8, 9, 13, 87, 88, 90] g g) hfr1 (by decide) (by decide) : mFr [5, 6, 7, 8, 9, 10, 11, 13, 87, 88, 90] g g1), by rw [er]; exact h10_1, by rw [er]; exact h11_1, rfl⟩)
theorem dX13_readBracket_0 : decode cX13_readBracket 0 = .ok (.aload_n 0, 1) := by decide +kernel
theorem dX13_readBracket_1 : decode cX13_readBracket 1 = .ok (.invokevirtual 533, 3) := by decide +kernel
theorem dX13_readBracket_4 : decode cX13_readBracket 4 = .ok (.ifCond .ne 5, 3) := by decide +kernel
theorem dX13_readBracket_7 : decode cX13_readBracket 7 = .ok (.iconst 0, 1) := by decide +kernel
theorem dX13_readBracket_8 : decode cX13_readBracket 8 = .ok (.ireturn, 1) := by decide +kernel
theorem dX13_readBracket_9 : decode cX13_readBracket 9 = .ok (.aload_n 0, 1) := by decide +kernel
theorem dX13_readBracket_10 : decode cX13_readBracket 10 = .ok (.bipush 41, 2) := by decide +kernel
theorem dX13_readBracket_12 : decode cX13_readBracket 12 = .ok (.invokevirtual 229, 3) := by decide +kernel
theorem dX13_readBracket_15 : decode cX13_readBracket 15 = .ok (.ifCond .ne 9, 3) := by decide +kernel
theorem dX13_readBracket_18 : decode cX13_readBracket 18 = .ok (.aload_n 0, 1) := by decide +kernel
theorem dX13_readBracket_19 : decode cX13_readBracket 19 = .ok (.iconst 1, 1) := by decide +kernel
theorem dX13_readBracket_20 : decode cX13_readBracket 20 = .ok (.invokevirtual 216, 3) := by decide +kernel
theorem dX13_readBracket_23 : decode cX13_readBracket 23 = .ok (.ireturn, 1) := by decide +kernel
theorem dX13_readBracket_24 : decode cX13_readBracket 24 = .ok (.aload_n 0, 1) := by decide +kernel
theorem dX13_readBracket_25 : decode cX13_readBracket 25 = .ok (.invokevirtual 226, 3) := by decide +kernel
theorem dX13_readBracket_28 : decode cX13_readBracket 28 = .ok (.iconst 1, 1) := by decide +kernel
theorem dX13_readBracket_29 : decode cX13_readBracket 29 = .ok (.ireturn, 1) := by decide +kernel
set_option maxRecDepth 100000 in
theorem s_mBracket (l : Launch) (dd d : Nat) (mo : Nat) (e : Nat → Nat) (n L : Nat) (bt : Nat → Nat) (hn : n ≤ 740) (hL : L ≤ 740) (hbt : ∀ j, bt j < 256) (hd : 2 ≤ dd) (f : zTk → Nat → zSe → zPs) (hfG : sG f) (hC : rCt l mX13_readOr (dd - 1) d mo e n L bt f) : rCt l mX13_readBracket dd d mo e n L bt (sBk bt n L f) := fun t tk S g w nd h3 h4 hT hW hO htk hS h87 h88 h89 => by
  have hS2 := hS.2
  have hS1 := hS.1
  have h14 := hO.1
  have hkd := mKd_4 (n := n) (L := L) hO.1
  refine zSp.of (by decide) (Nat.le_of_ble_eq_true rfl) (fun h0 => ?_)
  show zS _ 0 0 0 [(0, .ref mo)] [] [(mo, .inr (11, fMo e g w)), ((e 1), .inl (0, 740, .inl (nF bt))), ((e 86), .inl (0, 240, .inl nd))]
  refine zs_aload_n dX13_readBracket_0 rfl rfl ?_
  refine zs_callV (M := mX13_readOr) (As := []) (st := []) (Kc := [(mo, .inr (11, fMo e g w)), ((e 1), .inl (0, 740, .inl (nF bt))), ((e 86), .inl (0, 240, .inl nd))]) (Kr := []) [0, 1, 2] [] 0 dX13_readBracket_1 zl_RX13_533 kX13_readOr rfl rfl rfl rfl rfl (by decide) rfl rfl (show dd - 1 + 1 ≤ dd by omega) (Nat.zero_le _) (Nat.zero_le _) (Nat.le_of_ble_eq_true rfl) (hC t tk S g w nd h3 h4 hT hW hO htk hS h87 h88 h89) (fun r K1 hr => ?_)
  have hR1 := hfG t tk S hO htk hS
  generalize hG1 : f t tk S = G1 at hr hR1
  rcases hr with ⟨hq1, rfl, g1, w1, nd1, hfr1, hT1, hW1, h87_1, h88_1, h90_1, hlt1, hal1, hsT1, rfl⟩ | ⟨hq1, rfl, g1, w1, nd1, hfr1, h10_1, h11_1, rfl⟩
  · have fr1 : mFr [5, 6, 7, 8, 9, 13, 87, 88, 90] g g1 := mFr_t (mFr_r : mFr [5, 6, 7, 8, 9, 13, 87, 88, 90] g g) hfr1 (by decide) (by decide)
    have hS5_1 := hR1.2.2.2.2 hq1
    have hS4_1 := hR1.2.2.2.1
    have h14_1 := hR1.1.1
    have hkd_1 := mKd_4 (n := n) (L := L) hR1.1.1
    refine zs_if_ne (tgt := 9) dX13_readBracket_4 (by decide) (fun c_1 => ?_) (fun c_1 => (by first | exact absurd c_1 (by decide) | exact absurd (by decide) c_1 : False).elim)
    refine zs_aload_n dX13_readBracket_9 rfl rfl ?_
    refine zs_bipush (v := nI 41) dX13_readBracket_10 (by decide) ?_
    refine zs_callV (M := mX13_isSign) (As := [.int (nI 41)]) (st := []) (Kc := [(mo, .inr (11, fMo e g1 w1))]) (Kr := [((e 1), .inl (0, 740, .inl (nF bt))), ((e 86), .inl (0, 240, .inl nd1))]) [0] [1, 2] 0 dX13_readBracket_12 zl_RX13_229 kX13_isSign rfl rfl rfl rfl rfl (by decide) rfl rfl (show dd - 1 + 1 ≤ dd by omega) (Nat.zero_le _) (Nat.zero_le _) (Nat.le_of_ble_eq_true rfl) (s_mIsSign l (dd - 1) mo e g1 w1 n L G1.2.1 41 hT1 hW1 hR1.1 (by decide)) (fun r K1 hr => ?_)
    obtain ⟨rfl, rfl⟩ := hr
    refine zs_K (K' := [(mo, .inr (11, fMo e g1 w1)), ((e 1), .inl (0, 740, .inl (nF bt))), ((e 86), .inl (0, 240, .inl nd1))]) [2, 0, 1] rfl (by decide) ?_
    refine zs_if_ne (tgt := 24) dX13_readBracket_15 (by decide) (fun c_2 => ?_) (fun c_2 => ?_)
    · have h41 := bI_t c_2
      refine zs_aload_n dX13_readBracket_24 rfl rfl ?_
      refine zs_callV (M := mX13_go) (As := []) (st := []) (Kc := [(mo, .inr (11, fMo e g1 w1)), ((e 1), .inl (0, 740, .inl (nF bt)))]) (Kr := [((e 86), .inl (0, 240, .inl nd1))]) [0, 1] [2] 0 dX13_readBracket_25 zl_RX13_226 kX13_go rfl rfl rfl rfl rfl (by decide) rfl rfl (show dd - 1 + 1 ≤ dd by omega) (Nat.zero_le _) (Nat.zero_le _) (Nat.le_of_ble_eq_true rfl) (s_mGoT l (dd - 1) mo e g1 w1 n L bt G1.2.1 (by omega) hn hL hbt ((hfr1 3 (by decide)).trans h3) ((hfr1 4 (by decide)).trans h4) hT1 hW1 (show ¬ G1.2.1.1 = 0 by have := (tAt_i h41).1; omega)) (fun r K1 hr => ?_)
      obtain ⟨rfl, g2, w2, hfr2, hT2, rfl⟩ := hr
      refine zs_K (K' := [(mo, .inr (11, fMo e g2 w2)), ((e 1), .inl (0, 740, .inl (nF bt))), ((e 86), .inl (0, 240, .inl nd1))]) [1, 2, 0] rfl (by decide) ?_
      have fr2 : mFr [5, 6, 7, 8, 9, 13, 87, 88, 90] g g2 := mFr_t (fr1 : mFr [5, 6, 7, 8, 9, 13, 87, 88, 90] g g1) hfr2 (by decide) (by decide)
      have h3_2 : g2 3 = nI n := (hfr2 3 (by decide)).trans ((hfr1 3 (by decide)).trans h3)
      have h4_2 : g2 4 = nI L := (hfr2 4 (by decide)).trans ((hfr1 4 (by decide)).trans h4)
      have h23_2 : g2 23 = g1 23 := hfr2 23 (by decide)
      have hO_2 := nxt_OK (L := L) (τ := G1.2.1) hbt hn
      have h14_2 := hO_2.1
      have hkd_2 := mKd_4 (n := n) (L := L) hO_2.1
      refine zs_iconst (v := nI 1) dX13_readBracket_28 (by decide) ?_
      have er : sBk bt n L f t tk S = (0, nxt bt n L G1.2.1, G1.2.2) := by rw [sBk, hG1, if_pos hq1, if_pos h41]
      exact zs_zret dX13_readBracket_29 rfl (Or.inr rfl) (Or.inl ⟨by rw [er], rfl, g2, w2, nd1, fr2, by rw [er]; exact hT2, by rw [er]; exact nxt_W, by rw [er]; exact (hfr2 87 (by decide)).trans h87_1, by rw [er]; exact (hfr2 88 (by decide)).trans h88_1, by rw [er]; exact (hfr2 90 (by decide)).trans h90_1, by rw [er]; exact hlt1, by rw [er]; exact hal1, by rw [er]; exact hsT1, rfl⟩)
    · have h41 := bI_f c_2
      refine zs_aload_n dX13_readBracket_18 rfl rfl ?_
      refine zs_iconst (v := nI 1) dX13_readBracket_19 (by decide) ?_
      refine zs_callV (M := mX13_bad) (As := [.int (nI 1)]) (st := []) (Kc := [(mo, .inr (11, fMo e g1 w1))]) (Kr := [((e 1), .inl (0, 740, .inl (nF bt))), ((e 86), .inl (0, 240, .inl nd1))]) [0] [1, 2] 0 dX13_readBracket_20 zl_RX13_216 kX13_bad rfl rfl rfl rfl rfl (by decide) rfl rfl (show dd - 1 + 1 ≤ dd by omega) (Nat.zero_le _) (Nat.zero_le _) (Nat.le_of_ble_eq_true rfl) (s_mBad l (dd - 1) mo e g1 w1 n L G1.2.1 1 hT1 hW1 hR1.1) (fun r K1 hr => ?_)
      rw [mBad_e (by first | (intro; rfl) | (intro h; unfold mKd at h; split at h <;> omega))] at hr
      obtain ⟨rfl, rfl⟩ := hr
      refine zs_K (K' := [(mo, .inr (11, fMo e (mFa g1 1 G1.2.1) w1)), ((e 1), .inl (0, 740, .inl (nF bt))), ((e 86), .inl (0, 240, .inl nd1))]) [2, 0, 1] rfl (by decide) ?_
      have e1 : (sBk bt n L f t tk S).1 = 1 ∧ (sBk bt n L f t tk S).2.1 = G1.2.1 := by rw [sBk, hG1, if_pos hq1, if_neg (by rw [h41]; decide)]; exact ⟨rfl, rfl⟩
      exact zs_zret dX13_readBracket_23 rfl (Or.inl rfl) (Or.inr ⟨by rw [e1.1]; exact (show ¬ (1 : Nat) = 0 by decide), rfl, mFa g1 1 G1.2.1, w1, nd1, mFr_fs fr1, by rw [e1.1]; rfl, by rw [e1.2]; rfl, rfl⟩)
  · skip
    refine zs_if_ne (tgt := 9) dX13_readBracket_4 (by decide) (fun c_3 => (by first | exact absurd c_3 (by decide) | exact absurd (by decide) c_3 : False).elim) (fun c_3 => ?_)
    refine zs_iconst (v := nI 0) dX13_readBracket_7 (by decide) ?_
    have er : sBk bt n L f t tk S = G1 := by rw [sBk, hG1, if_neg hq1]
    exact zs_zret dX13_readBracket_8 rfl (Or.inl rfl) (Or.inr ⟨by rw [er]; exact hq1, rfl, g1, w1, nd1, (mFr_t (mFr_r : mFr [5, 6, 7, 8, 9, 13, 87, 88, 90] g g) hfr1 (by decide) (by decide) : mFr [5, 6, 7, 8, 9, 10, 11, 13, 87, 88, 90] g g1), by rw [er]; exact h10_1, by rw [er]; exact h11_1, rfl⟩)
theorem dX13_readAnd_0 : decode cX13_readAnd 0 = .ok (.aload_n 0, 1) := by decide +kernel
theorem dX13_readAnd_1 : decode cX13_readAnd 1 = .ok (.invokevirtual 515, 3) := by decide +kernel
theorem dX13_readAnd_4 : decode cX13_readAnd 4 = .ok (.ifCond .ne 5, 3) := by decide +kernel
theorem dX13_readAnd_7 : decode cX13_readAnd 7 = .ok (.iconst 0, 1) := by decide +kernel
theorem dX13_readAnd_8 : decode cX13_readAnd 8 = .ok (.ireturn, 1) := by decide +kernel
theorem dX13_readAnd_9 : decode cX13_readAnd 9 = .ok (.aload_n 0, 1) := by decide +kernel
theorem dX13_readAnd_10 : decode cX13_readAnd 10 = .ok (.getfield 509, 3) := by decide +kernel
theorem dX13_readAnd_13 : decode cX13_readAnd 13 = .ok (.istore_n 1, 1) := by decide +kernel
theorem dX13_readAnd_14 : decode cX13_readAnd 14 = .ok (.aload_n 0, 1) := by decide +kernel
theorem dX13_readAnd_15 : decode cX13_readAnd 15 = .ok (.bipush 21, 2) := by decide +kernel
theorem dX13_readAnd_17 : decode cX13_readAnd 17 = .ok (.invokevirtual 264, 3) := by decide +kernel
theorem dX13_readAnd_20 : decode cX13_readAnd 20 = .ok (.ifCond .eq 31, 3) := by decide +kernel
theorem dX13_readAnd_23 : decode cX13_readAnd 23 = .ok (.aload_n 0, 1) := by decide +kernel
theorem dX13_readAnd_24 : decode cX13_readAnd 24 = .ok (.invokevirtual 226, 3) := by decide +kernel
theorem dX13_readAnd_27 : decode cX13_readAnd 27 = .ok (.aload_n 0, 1) := by decide +kernel
theorem dX13_readAnd_28 : decode cX13_readAnd 28 = .ok (.invokevirtual 515, 3) := by decide +kernel
theorem dX13_readAnd_31 : decode cX13_readAnd 31 = .ok (.ifCond .ne 5, 3) := by decide +kernel
theorem dX13_readAnd_34 : decode cX13_readAnd 34 = .ok (.iconst 0, 1) := by decide +kernel
theorem dX13_readAnd_35 : decode cX13_readAnd 35 = .ok (.ireturn, 1) := by decide +kernel
theorem dX13_readAnd_36 : decode cX13_readAnd 36 = .ok (.aload_n 0, 1) := by decide +kernel
theorem dX13_readAnd_37 : decode cX13_readAnd 37 = .ok (.iconst 2, 1) := by decide +kernel
theorem dX13_readAnd_38 : decode cX13_readAnd 38 = .ok (.iload_n 1, 1) := by decide +kernel
theorem dX13_readAnd_39 : decode cX13_readAnd 39 = .ok (.aload_n 0, 1) := by decide +kernel
theorem dX13_readAnd_40 : decode cX13_readAnd 40 = .ok (.getfield 509, 3) := by decide +kernel
theorem dX13_readAnd_43 : decode cX13_readAnd 43 = .ok (.iconst 0, 1) := by decide +kernel
theorem dX13_readAnd_44 : decode cX13_readAnd 44 = .ok (.invokevirtual 512, 3) := by decide +kernel
theorem dX13_readAnd_47 : decode cX13_readAnd 47 = .ok (.istore_n 1, 1) := by decide +kernel
theorem dX13_readAnd_48 : decode cX13_readAnd 48 = .ok (.goto (-34), 3) := by decide +kernel
theorem dX13_readAnd_51 : decode cX13_readAnd 51 = .ok (.aload_n 0, 1) := by decide +kernel
theorem dX13_readAnd_52 : decode cX13_readAnd 52 = .ok (.iload_n 1, 1) := by decide +kernel
theorem dX13_readAnd_53 : decode cX13_readAnd 53 = .ok (.putfield 509, 3) := by decide +kernel
theorem dX13_readAnd_56 : decode cX13_readAnd 56 = .ok (.iconst 1, 1) := by decide +kernel
theorem dX13_readAnd_57 : decode cX13_readAnd 57 = .ok (.ireturn, 1) := by decide +kernel
set_option maxRecDepth 100000 in
theorem lp_mAnd {l : Launch} {dd : Nat} {Po : zPo} {K0 : zK} {h0 : List va_E} {Xo : zK → Prop} {Gc : zG → Prop} (mo : Nat) (e : Nat → Nat) (n L : Nat) (bt : Nat → Nat) (hn : n ≤ 740) (hL : L ≤ 740) (hbt : ∀ j, bt j < 256) (d : Nat) (hd : 4 ≤ dd) (f : zTk → Nat → zSe → zPs) (hfG : sG f) (hC : rCt l mX13_readOne (dd - 1) d mo e n L bt f) (S0 : zSe) (g0 nd0 : Nat → Int32) (h3 : g0 3 = nI n) (h4 : g0 4 = nI L) (G : zPs) (hP : ∀ r K', sPo mo e n L bt S0 g0 nd0 G r K' → Po r K') : ∀ (q : Nat) (t : zTk) (tk : Nat) (S : zSe) (g : Nat → Int32) (w : Int64) (nd : Nat → Int32), mFr [5, 6, 7, 8, 9, 13, 87, 88, 90] g0 g → mTk n L t g w → tW n L t → tOK t → tk ≤ 99999999 → sB S → 21 ≤ S.1 + q → g 87 = nI S.2.1 → g 88 = nI S.1 → g 89 = nI (8 - d) → S0.2.1 < S.2.1 → sAl nd0 nd S0 S → sT nd S (S.2.1 - 1) S0.2.1 → sJn bt n L 21 7 f q t tk S = G → zS (l, mX13_readAnd, dd, Po, K0, h0, Xo, Gc) 0 0 14 [(0, .ref mo), (1, .int (nI (S.2.1 - 1)))] [] [(mo, .inr (11, fMo e g w)), ((e 1), .inl (0, 740, .inl (nF bt))), ((e 86), .inl (0, 240, .inl nd))] := by
  intro q
  induction q with
  | zero =>
    intro t tk S g w nd hfr hT hW hO htk hS hq21
    have := hS.1
    omega
  | succ q ih =>
    intro t tk S g w nd hfr hT hW hO htk hS hq21 h87 h88 h89 hlt0 hal hsT hG
    have hS2 := hS.2
    have hS1 := hS.1
    rw [sJn] at hG
    refine zs_aload_n dX13_readAnd_14 rfl rfl ?_
    refine zs_bipush (v := nI 21) dX13_readAnd_15 (by decide) ?_
    refine zs_callV (M := mX13_isWord) (As := [.int (nI 21)]) (st := []) (Kc := [(mo, .inr (11, fMo e g w))]) (Kr := [((e 1), .inl (0, 740, .inl (nF bt))), ((e 86), .inl (0, 240, .inl nd))]) [0] [1, 2] 0 dX13_readAnd_17 zl_RX13_264 kX13_isWord rfl rfl rfl rfl rfl (by decide) rfl rfl (show dd - 1 + 1 ≤ dd by omega) (Nat.zero_le _) (Nat.zero_le _) (Nat.le_of_ble_eq_true rfl) (s_mIsWord l (dd - 1) mo e g w n L t 21 (by omega) (by omega) hT hW hO) (fun r K1 hr => ?_)
    obtain ⟨rfl, rfl⟩ := hr
    refine zs_K (K' := [(mo, .inr (11, fMo e g w)), ((e 1), .inl (0, 740, .inl (nF bt))), ((e 86), .inl (0, 240, .inl nd))]) [2, 0, 1] rfl (by decide) ?_
    refine zs_if_eq (tgt := 51) dX13_readAnd_20 (by decide) (fun c_1 => ?_) (fun c_1 => ?_)
    · have hwd : ¬ t.2.2.2.2 = some 21 := of_decide_eq_false (bI_f c_1)
      refine zs_aload_n dX13_readAnd_51 rfl rfl ?_
      refine zs_iload_n dX13_readAnd_52 rfl ?_
      refine zs_put 0 dX13_readAnd_53 zf_RX13_509 rfl (Nat.le_of_ble_eq_true rfl) (zPv_i _) ?_
      show zS _ _ _ _ _ _ [(mo, .inr (11, fMo e (upd g 90 (nI (S.2.1 - 1))) w)), ((e 1), .inl (0, 740, .inl (nF bt))), ((e 86), .inl (0, 240, .inl nd))]
      refine zs_iconst (v := nI 1) dX13_readAnd_56 (by decide) ?_
      have er : G = (0, t, tk, S) := by rw [← hG, if_pos hwd]
      exact zs_zret dX13_readAnd_57 rfl (Or.inr rfl) (hP _ _ (Or.inl ⟨by rw [er], rfl, (upd g 90 (nI (S.2.1 - 1))), w, nd, mFr_u hfr (by decide), by rw [er]; exact mTk_f hT rfl rfl rfl rfl rfl, by rw [er]; exact hW, by rw [er]; exact h87, by rw [er]; exact h88, by rw [er] <;> rfl, by rw [er]; exact hlt0, by rw [er]; exact hal, by rw [er]; exact hsT, rfl⟩))
    · have hwd : t.2.2.2.2 = some 21 := of_decide_eq_true (bI_t c_1)
      refine zs_aload_n dX13_readAnd_23 rfl rfl ?_
      refine zs_callV (M := mX13_go) (As := []) (st := []) (Kc := [(mo, .inr (11, fMo e g w)), ((e 1), .inl (0, 740, .inl (nF bt)))]) (Kr := [((e 86), .inl (0, 240, .inl nd))]) [0, 1] [2] 0 dX13_readAnd_24 zl_RX13_226 kX13_go rfl rfl rfl rfl rfl (by decide) rfl rfl (show dd - 1 + 1 ≤ dd by omega) (Nat.zero_le _) (Nat.zero_le _) (Nat.le_of_ble_eq_true rfl) (s_mGoT l (dd - 1) mo e g w n L bt t (by omega) hn hL hbt ((hfr 3 (by decide)).trans h3) ((hfr 4 (by decide)).trans h4) hT hW (show ¬ t.1 = 0 from fun hz => by have := hO.2.2.2.2.2.2.2.2 _ hwd; omega)) (fun r K1 hr => ?_)
      obtain ⟨rfl, g1, w1, hfr1, hT1, rfl⟩ := hr
      refine zs_K (K' := [(mo, .inr (11, fMo e g1 w1)), ((e 1), .inl (0, 740, .inl (nF bt))), ((e 86), .inl (0, 240, .inl nd))]) [1, 2, 0] rfl (by decide) ?_
      have fr1 : mFr [5, 6, 7, 8, 9, 13, 87, 88, 90] g0 g1 := mFr_t (hfr : mFr [5, 6, 7, 8, 9, 13, 87, 88, 90] g0 g) hfr1 (by decide) (by decide)
      have hO_1 := nxt_OK (L := L) (τ := t) hbt hn
      have h14_1 := hO_1.1
      have hkd_1 := mKd_4 (n := n) (L := L) hO_1.1
      refine zs_aload_n dX13_readAnd_27 rfl rfl ?_
      refine zs_callV (M := mX13_readOne) (As := []) (st := []) (Kc := [(mo, .inr (11, fMo e g1 w1)), ((e 1), .inl (0, 740, .inl (nF bt))), ((e 86), .inl (0, 240, .inl nd))]) (Kr := []) [0, 1, 2] [] 0 dX13_readAnd_28 zl_RX13_515 kX13_readOne rfl rfl rfl rfl rfl (by decide) rfl rfl (show dd - 1 + 1 ≤ dd by omega) (Nat.zero_le _) (Nat.zero_le _) (Nat.le_of_ble_eq_true rfl) (hC (nxt bt n L t) tk S g1 w1 nd ((hfr1 3 (by decide)).trans ((hfr 3 (by decide)).trans h3)) ((hfr1 4 (by decide)).trans ((hfr 4 (by decide)).trans h4)) hT1 (nxt_W (b := bt) (n := n) (L := L) (τ := t)) hO_1 htk hS ((hfr1 87 (by decide)).trans h87) ((hfr1 88 (by decide)).trans h88) ((hfr1 89 (by decide)).trans h89)) (fun r K1 hr => ?_)
      have hR2 := hfG (nxt bt n L t) tk S hO_1 htk hS
      generalize hG2 : f (nxt bt n L t) tk S = G2 at hr hR2
      rcases hr with ⟨hq2, rfl, g2, w2, nd2, hfr2, hT2, hW2, h87_2, h88_2, h90_2, hlt2, hal2, hsT2, rfl⟩ | ⟨hq2, rfl, g2, w2, nd2, hfr2, h10_2, h11_2, rfl⟩
      · have fr2 : mFr [5, 6, 7, 8, 9, 13, 87, 88, 90] g0 g2 := mFr_t (fr1 : mFr [5, 6, 7, 8, 9, 13, 87, 88, 90] g0 g1) hfr2 (by decide) (by decide)
        have hS5_2 := hR2.2.2.2.2 hq2
        have hS4_2 := hR2.2.2.2.1
        have h14_2 := hR2.1.1
        have hkd_2 := mKd_4 (n := n) (L := L) hR2.1.1
        refine zs_if_ne (tgt := 36) dX13_readAnd_31 (by decide) (fun c_2 => ?_) (fun c_2 => (by first | exact absurd c_2 (by decide) | exact absurd (by decide) c_2 : False).elim)
        refine zs_aload_n dX13_readAnd_36 rfl rfl ?_
        refine zs_iconst (v := nI 2) dX13_readAnd_37 (by decide) ?_
        refine zs_iload_n dX13_readAnd_38 rfl ?_
        refine zs_aload_n dX13_readAnd_39 rfl rfl ?_
        refine zs_get 0 dX13_readAnd_40 zf_RX13_509 rfl (v := .int (g2 90)) rfl ?_
        refine zs_as (y := nI (G2.2.2.2.2.1 - 1)) h90_2 ?_
        refine zs_iconst (v := nI 0) dX13_readAnd_43 (by decide) ?_
        refine zs_callV (M := mX13_lays) (As := [.int (nI 2), .int (nI (S.2.1 - 1)), .int (nI (G2.2.2.2.2.1 - 1)), .int (nI 0)]) (st := []) (Kc := [(mo, .inr (11, fMo e g2 w2)), ((e 86), .inl (0, 240, .inl nd2))]) (Kr := [((e 1), .inl (0, 740, .inl (nF bt)))]) [0, 2] [1] 0 dX13_readAnd_44 zl_RX13_512 kX13_lays rfl rfl rfl rfl rfl (by decide) rfl rfl (show dd - 1 + 1 ≤ dd by omega) (Nat.zero_le _) (Nat.zero_le _) (Nat.le_of_ble_eq_true rfl) (s_mLays l (dd - 1) mo e g2 w2 nd2 G2.2.2.2.2.1 (nI 2) (nI (S.2.1 - 1)) (nI (G2.2.2.2.2.1 - 1)) (nI 0) (by omega) h87_2) (fun r K1 hr => ?_)
        obtain ⟨rfl, rfl⟩ := hr
        refine zs_K (K' := [(mo, .inr (11, fMo e (upd g2 87 (nI (G2.2.2.2.2.1 + 1))) w2)), ((e 1), .inl (0, 740, .inl (nF bt))), ((e 86), .inl (0, 240, .inl (nLay nd2 G2.2.2.2.2.1 (nI 2) (nI (S.2.1 - 1)) (nI (G2.2.2.2.2.1 - 1)) (nI 0))))]) [1, 0, 2] rfl (by decide) ?_
        refine zs_istore_n (lv' := [(1, .int (nI G2.2.2.2.2.1)), (0, .ref mo)]) dX13_readAnd_47 (Nat.le_of_ble_eq_true rfl) rfl ?_
        refine zs_goto (tgt := 14) dX13_readAnd_48 (by decide) ?_
        refine zs_lv [1, 0] rfl ?_
        rw [if_neg (fun h => h hwd), hG2, if_pos hq2] at hG
        refine ih G2.2.1 G2.2.2.1 (sAd G2.2.2.2 7 0 0) (upd g2 87 (nI (G2.2.2.2.2.1 + 1))) w2 (nLay nd2 G2.2.2.2.2.1 (nI 2) (nI (S.2.1 - 1)) (nI (G2.2.2.2.2.1 - 1)) (nI 0)) (mFr_u fr2 (by decide)) (mTk_f hT2 rfl rfl rfl rfl rfl) hW2 hR2.1 hR2.2.1 ⟨hS4_2, ?_⟩ ?_ rfl h88_2 ((hfr2 89 (by decide)).trans ((hfr1 89 (by decide)).trans h89)) (Nat.lt_succ_of_lt (Nat.lt_of_lt_of_le hlt0 (Nat.le_of_lt hlt2))) (sAl_t (sAl_t hal hal2) sAl_ad) ?_ hG
        · show G2.2.2.2.2.1 + 1 ≤ 2 * G2.2.2.2.1
          omega
        · show 21 ≤ G2.2.2.2.1 + q
          omega
        · exact sT_two (Or.inl ⟨rfl, rfl⟩) (by omega) (sT_o hal2 (by omega) hsT) (by rw [show S.2.1 - 1 + 1 = S.2.1 by omega]; exact hsT2)
      · skip
        refine zs_if_ne (tgt := 36) dX13_readAnd_31 (by decide) (fun c_3 => (by first | exact absurd c_3 (by decide) | exact absurd (by decide) c_3 : False).elim) (fun c_3 => ?_)
        refine zs_iconst (v := nI 0) dX13_readAnd_34 (by decide) ?_
        have er : G = G2 := by rw [← hG, if_neg (fun h => h hwd), hG2, if_neg hq2]
        exact zs_zret dX13_readAnd_35 rfl (Or.inl rfl) (hP _ _ (Or.inr ⟨by rw [er]; exact hq2, rfl, g2, w2, nd2, (mFr_t (fr1 : mFr [5, 6, 7, 8, 9, 13, 87, 88, 90] g0 g1) hfr2 (by decide) (by decide) : mFr [5, 6, 7, 8, 9, 10, 11, 13, 87, 88, 90] g0 g2), by rw [er]; exact h10_2, by rw [er]; exact h11_2, rfl⟩))
set_option maxRecDepth 100000 in
theorem s_mAnd (l : Launch) (dd d : Nat) (mo : Nat) (e : Nat → Nat) (n L : Nat) (bt : Nat → Nat) (hn : n ≤ 740) (hL : L ≤ 740) (hbt : ∀ j, bt j < 256) (hd : 4 ≤ dd) (f : zTk → Nat → zSe → zPs) (hfG : sG f) (hC : rCt l mX13_readOne (dd - 1) d mo e n L bt f) : rCt l mX13_readAnd dd d mo e n L bt (sJo bt n L 21 7 f) := fun t tk S g w nd h3 h4 hT hW hO htk hS h87 h88 h89 => by
  have hS2 := hS.2
  have hS1 := hS.1
  have h14 := hO.1
  have hkd := mKd_4 (n := n) (L := L) hO.1
  refine zSp.of (by decide) (Nat.le_of_ble_eq_true rfl) (fun h0 => ?_)
  show zS _ 0 0 0 [(0, .ref mo)] [] [(mo, .inr (11, fMo e g w)), ((e 1), .inl (0, 740, .inl (nF bt))), ((e 86), .inl (0, 240, .inl nd))]
  refine zs_aload_n dX13_readAnd_0 rfl rfl ?_
  refine zs_callV (M := mX13_readOne) (As := []) (st := []) (Kc := [(mo, .inr (11, fMo e g w)), ((e 1), .inl (0, 740, .inl (nF bt))), ((e 86), .inl (0, 240, .inl nd))]) (Kr := []) [0, 1, 2] [] 0 dX13_readAnd_1 zl_RX13_515 kX13_readOne rfl rfl rfl rfl rfl (by decide) rfl rfl (show dd - 1 + 1 ≤ dd by omega) (Nat.zero_le _) (Nat.zero_le _) (Nat.le_of_ble_eq_true rfl) (hC t tk S g w nd h3 h4 hT hW hO htk hS h87 h88 h89) (fun r K1 hr => ?_)
  have hR1 := hfG t tk S hO htk hS
  generalize hG1 : f t tk S = G1 at hr hR1
  rcases hr with ⟨hq1, rfl, g1, w1, nd1, hfr1, hT1, hW1, h87_1, h88_1, h90_1, hlt1, hal1, hsT1, rfl⟩ | ⟨hq1, rfl, g1, w1, nd1, hfr1, h10_1, h11_1, rfl⟩
  · have fr1 : mFr [5, 6, 7, 8, 9, 13, 87, 88, 90] g g1 := mFr_t (mFr_r : mFr [5, 6, 7, 8, 9, 13, 87, 88, 90] g g) hfr1 (by decide) (by decide)
    have hS5_1 := hR1.2.2.2.2 hq1
    have hS4_1 := hR1.2.2.2.1
    have h14_1 := hR1.1.1
    have hkd_1 := mKd_4 (n := n) (L := L) hR1.1.1
    refine zs_if_ne (tgt := 9) dX13_readAnd_4 (by decide) (fun c_1 => ?_) (fun c_1 => (by first | exact absurd c_1 (by decide) | exact absurd (by decide) c_1 : False).elim)
    refine zs_aload_n dX13_readAnd_9 rfl rfl ?_
    refine zs_get 0 dX13_readAnd_10 zf_RX13_509 rfl (v := .int (g1 90)) rfl ?_
    refine zs_as (y := nI (G1.2.2.2.2.1 - 1)) h90_1 ?_
    refine zs_istore_n (lv' := [(1, .int (nI (G1.2.2.2.2.1 - 1))), (0, .ref mo)]) dX13_readAnd_13 (Nat.le_of_ble_eq_true rfl) rfl ?_
    have er : sJo bt n L 21 7 f t tk S = sJn bt n L 21 7 f 20 G1.2.1 G1.2.2.1 G1.2.2.2 := by rw [sJo, hG1, if_pos hq1]
    refine zs_lv [1, 0] rfl ?_
    exact lp_mAnd mo e n L bt hn hL hbt d hd f hfG hC S g nd h3 h4 (sJo bt n L 21 7 f t tk S) (fun r K1 h => h) 20 G1.2.1 G1.2.2.1 G1.2.2.2 g1 w1 nd1 fr1 hT1 hW1 hR1.1 hR1.2.1 ⟨hS4_1, by omega⟩ (by omega) h87_1 h88_1 ((hfr1 89 (by decide)).trans h89) hlt1 hal1 hsT1 er.symm
  · skip
    refine zs_if_ne (tgt := 9) dX13_readAnd_4 (by decide) (fun c_2 => (by first | exact absurd c_2 (by decide) | exact absurd (by decide) c_2 : False).elim) (fun c_2 => ?_)
    refine zs_iconst (v := nI 0) dX13_readAnd_7 (by decide) ?_
    have er : sJo bt n L 21 7 f t tk S = G1 := by rw [sJo, hG1, if_neg hq1]
    exact zs_zret dX13_readAnd_8 rfl (Or.inl rfl) (Or.inr ⟨by rw [er]; exact hq1, rfl, g1, w1, nd1, (mFr_t (mFr_r : mFr [5, 6, 7, 8, 9, 13, 87, 88, 90] g g) hfr1 (by decide) (by decide) : mFr [5, 6, 7, 8, 9, 10, 11, 13, 87, 88, 90] g g1), by rw [er]; exact h10_1, by rw [er]; exact h11_1, rfl⟩)
theorem dX13_readOr_0 : decode cX13_readOr 0 = .ok (.aload_n 0, 1) := by decide +kernel
theorem dX13_readOr_1 : decode cX13_readOr 1 = .ok (.invokevirtual 506, 3) := by decide +kernel
theorem dX13_readOr_4 : decode cX13_readOr 4 = .ok (.ifCond .ne 5, 3) := by decide +kernel
theorem dX13_readOr_7 : decode cX13_readOr 7 = .ok (.iconst 0, 1) := by decide +kernel
theorem dX13_readOr_8 : decode cX13_readOr 8 = .ok (.ireturn, 1) := by decide +kernel
theorem dX13_readOr_9 : decode cX13_readOr 9 = .ok (.aload_n 0, 1) := by decide +kernel
theorem dX13_readOr_10 : decode cX13_readOr 10 = .ok (.getfield 509, 3) := by decide +kernel
theorem dX13_readOr_13 : decode cX13_readOr 13 = .ok (.istore_n 1, 1) := by decide +kernel
theorem dX13_readOr_14 : decode cX13_readOr 14 = .ok (.aload_n 0, 1) := by decide +kernel
theorem dX13_readOr_15 : decode cX13_readOr 15 = .ok (.bipush 20, 2) := by decide +kernel
theorem dX13_readOr_17 : decode cX13_readOr 17 = .ok (.invokevirtual 264, 3) := by decide +kernel
theorem dX13_readOr_20 : decode cX13_readOr 20 = .ok (.ifCond .eq 31, 3) := by decide +kernel
theorem dX13_readOr_23 : decode cX13_readOr 23 = .ok (.aload_n 0, 1) := by decide +kernel
theorem dX13_readOr_24 : decode cX13_readOr 24 = .ok (.invokevirtual 226, 3) := by decide +kernel
theorem dX13_readOr_27 : decode cX13_readOr 27 = .ok (.aload_n 0, 1) := by decide +kernel
theorem dX13_readOr_28 : decode cX13_readOr 28 = .ok (.invokevirtual 506, 3) := by decide +kernel
theorem dX13_readOr_31 : decode cX13_readOr 31 = .ok (.ifCond .ne 5, 3) := by decide +kernel
theorem dX13_readOr_34 : decode cX13_readOr 34 = .ok (.iconst 0, 1) := by decide +kernel
theorem dX13_readOr_35 : decode cX13_readOr 35 = .ok (.ireturn, 1) := by decide +kernel
theorem dX13_readOr_36 : decode cX13_readOr 36 = .ok (.aload_n 0, 1) := by decide +kernel
theorem dX13_readOr_37 : decode cX13_readOr 37 = .ok (.iconst 3, 1) := by decide +kernel
theorem dX13_readOr_38 : decode cX13_readOr 38 = .ok (.iload_n 1, 1) := by decide +kernel
theorem dX13_readOr_39 : decode cX13_readOr 39 = .ok (.aload_n 0, 1) := by decide +kernel
theorem dX13_readOr_40 : decode cX13_readOr 40 = .ok (.getfield 509, 3) := by decide +kernel
theorem dX13_readOr_43 : decode cX13_readOr 43 = .ok (.iconst 0, 1) := by decide +kernel
theorem dX13_readOr_44 : decode cX13_readOr 44 = .ok (.invokevirtual 512, 3) := by decide +kernel
theorem dX13_readOr_47 : decode cX13_readOr 47 = .ok (.istore_n 1, 1) := by decide +kernel
theorem dX13_readOr_48 : decode cX13_readOr 48 = .ok (.goto (-34), 3) := by decide +kernel
theorem dX13_readOr_51 : decode cX13_readOr 51 = .ok (.aload_n 0, 1) := by decide +kernel
theorem dX13_readOr_52 : decode cX13_readOr 52 = .ok (.iload_n 1, 1) := by decide +kernel
theorem dX13_readOr_53 : decode cX13_readOr 53 = .ok (.putfield 509, 3) := by decide +kernel
theorem dX13_readOr_56 : decode cX13_readOr 56 = .ok (.iconst 1, 1) := by decide +kernel
theorem dX13_readOr_57 : decode cX13_readOr 57 = .ok (.ireturn, 1) := by decide +kernel
set_option maxRecDepth 100000 in
theorem lp_mOr {l : Launch} {dd : Nat} {Po : zPo} {K0 : zK} {h0 : List va_E} {Xo : zK → Prop} {Gc : zG → Prop} (mo : Nat) (e : Nat → Nat) (n L : Nat) (bt : Nat → Nat) (hn : n ≤ 740) (hL : L ≤ 740) (hbt : ∀ j, bt j < 256) (d : Nat) (hd : 4 ≤ dd) (f : zTk → Nat → zSe → zPs) (hfG : sG f) (hC : rCt l mX13_readAnd (dd - 1) d mo e n L bt f) (S0 : zSe) (g0 nd0 : Nat → Int32) (h3 : g0 3 = nI n) (h4 : g0 4 = nI L) (G : zPs) (hP : ∀ r K', sPo mo e n L bt S0 g0 nd0 G r K' → Po r K') : ∀ (q : Nat) (t : zTk) (tk : Nat) (S : zSe) (g : Nat → Int32) (w : Int64) (nd : Nat → Int32), mFr [5, 6, 7, 8, 9, 13, 87, 88, 90] g0 g → mTk n L t g w → tW n L t → tOK t → tk ≤ 99999999 → sB S → 21 ≤ S.1 + q → g 87 = nI S.2.1 → g 88 = nI S.1 → g 89 = nI (8 - d) → S0.2.1 < S.2.1 → sAl nd0 nd S0 S → sT nd S (S.2.1 - 1) S0.2.1 → sJn bt n L 20 8 f q t tk S = G → zS (l, mX13_readOr, dd, Po, K0, h0, Xo, Gc) 0 0 14 [(0, .ref mo), (1, .int (nI (S.2.1 - 1)))] [] [(mo, .inr (11, fMo e g w)), ((e 1), .inl (0, 740, .inl (nF bt))), ((e 86), .inl (0, 240, .inl nd))] := by
  intro q
  induction q with
  | zero =>
    intro t tk S g w nd hfr hT hW hO htk hS hq21
    have := hS.1
    omega
  | succ q ih =>
    intro t tk S g w nd hfr hT hW hO htk hS hq21 h87 h88 h89 hlt0 hal hsT hG
    have hS2 := hS.2
    have hS1 := hS.1
    rw [sJn] at hG
    refine zs_aload_n dX13_readOr_14 rfl rfl ?_
    refine zs_bipush (v := nI 20) dX13_readOr_15 (by decide) ?_
    refine zs_callV (M := mX13_isWord) (As := [.int (nI 20)]) (st := []) (Kc := [(mo, .inr (11, fMo e g w))]) (Kr := [((e 1), .inl (0, 740, .inl (nF bt))), ((e 86), .inl (0, 240, .inl nd))]) [0] [1, 2] 0 dX13_readOr_17 zl_RX13_264 kX13_isWord rfl rfl rfl rfl rfl (by decide) rfl rfl (show dd - 1 + 1 ≤ dd by omega) (Nat.zero_le _) (Nat.zero_le _) (Nat.le_of_ble_eq_true rfl) (s_mIsWord l (dd - 1) mo e g w n L t 20 (by omega) (by omega) hT hW hO) (fun r K1 hr => ?_)
    obtain ⟨rfl, rfl⟩ := hr
    refine zs_K (K' := [(mo, .inr (11, fMo e g w)), ((e 1), .inl (0, 740, .inl (nF bt))), ((e 86), .inl (0, 240, .inl nd))]) [2, 0, 1] rfl (by decide) ?_
    refine zs_if_eq (tgt := 51) dX13_readOr_20 (by decide) (fun c_1 => ?_) (fun c_1 => ?_)
    · have hwd : ¬ t.2.2.2.2 = some 20 := of_decide_eq_false (bI_f c_1)
      refine zs_aload_n dX13_readOr_51 rfl rfl ?_
      refine zs_iload_n dX13_readOr_52 rfl ?_
      refine zs_put 0 dX13_readOr_53 zf_RX13_509 rfl (Nat.le_of_ble_eq_true rfl) (zPv_i _) ?_
      show zS _ _ _ _ _ _ [(mo, .inr (11, fMo e (upd g 90 (nI (S.2.1 - 1))) w)), ((e 1), .inl (0, 740, .inl (nF bt))), ((e 86), .inl (0, 240, .inl nd))]
      refine zs_iconst (v := nI 1) dX13_readOr_56 (by decide) ?_
      have er : G = (0, t, tk, S) := by rw [← hG, if_pos hwd]
      exact zs_zret dX13_readOr_57 rfl (Or.inr rfl) (hP _ _ (Or.inl ⟨by rw [er], rfl, (upd g 90 (nI (S.2.1 - 1))), w, nd, mFr_u hfr (by decide), by rw [er]; exact mTk_f hT rfl rfl rfl rfl rfl, by rw [er]; exact hW, by rw [er]; exact h87, by rw [er]; exact h88, by rw [er] <;> rfl, by rw [er]; exact hlt0, by rw [er]; exact hal, by rw [er]; exact hsT, rfl⟩))
    · have hwd : t.2.2.2.2 = some 20 := of_decide_eq_true (bI_t c_1)
      refine zs_aload_n dX13_readOr_23 rfl rfl ?_
      refine zs_callV (M := mX13_go) (As := []) (st := []) (Kc := [(mo, .inr (11, fMo e g w)), ((e 1), .inl (0, 740, .inl (nF bt)))]) (Kr := [((e 86), .inl (0, 240, .inl nd))]) [0, 1] [2] 0 dX13_readOr_24 zl_RX13_226 kX13_go rfl rfl rfl rfl rfl (by decide) rfl rfl (show dd - 1 + 1 ≤ dd by omega) (Nat.zero_le _) (Nat.zero_le _) (Nat.le_of_ble_eq_true rfl) (s_mGoT l (dd - 1) mo e g w n L bt t (by omega) hn hL hbt ((hfr 3 (by decide)).trans h3) ((hfr 4 (by decide)).trans h4) hT hW (show ¬ t.1 = 0 from fun hz => by have := hO.2.2.2.2.2.2.2.2 _ hwd; omega)) (fun r K1 hr => ?_)
      obtain ⟨rfl, g1, w1, hfr1, hT1, rfl⟩ := hr
      refine zs_K (K' := [(mo, .inr (11, fMo e g1 w1)), ((e 1), .inl (0, 740, .inl (nF bt))), ((e 86), .inl (0, 240, .inl nd))]) [1, 2, 0] rfl (by decide) ?_
      have fr1 : mFr [5, 6, 7, 8, 9, 13, 87, 88, 90] g0 g1 := mFr_t (hfr : mFr [5, 6, 7, 8, 9, 13, 87, 88, 90] g0 g) hfr1 (by decide) (by decide)
      have hO_1 := nxt_OK (L := L) (τ := t) hbt hn
      have h14_1 := hO_1.1
      have hkd_1 := mKd_4 (n := n) (L := L) hO_1.1
      refine zs_aload_n dX13_readOr_27 rfl rfl ?_
      refine zs_callV (M := mX13_readAnd) (As := []) (st := []) (Kc := [(mo, .inr (11, fMo e g1 w1)), ((e 1), .inl (0, 740, .inl (nF bt))), ((e 86), .inl (0, 240, .inl nd))]) (Kr := []) [0, 1, 2] [] 0 dX13_readOr_28 zl_RX13_506 kX13_readAnd rfl rfl rfl rfl rfl (by decide) rfl rfl (show dd - 1 + 1 ≤ dd by omega) (Nat.zero_le _) (Nat.zero_le _) (Nat.le_of_ble_eq_true rfl) (hC (nxt bt n L t) tk S g1 w1 nd ((hfr1 3 (by decide)).trans ((hfr 3 (by decide)).trans h3)) ((hfr1 4 (by decide)).trans ((hfr 4 (by decide)).trans h4)) hT1 (nxt_W (b := bt) (n := n) (L := L) (τ := t)) hO_1 htk hS ((hfr1 87 (by decide)).trans h87) ((hfr1 88 (by decide)).trans h88) ((hfr1 89 (by decide)).trans h89)) (fun r K1 hr => ?_)
      have hR2 := hfG (nxt bt n L t) tk S hO_1 htk hS
      generalize hG2 : f (nxt bt n L t) tk S = G2 at hr hR2
      rcases hr with ⟨hq2, rfl, g2, w2, nd2, hfr2, hT2, hW2, h87_2, h88_2, h90_2, hlt2, hal2, hsT2, rfl⟩ | ⟨hq2, rfl, g2, w2, nd2, hfr2, h10_2, h11_2, rfl⟩
      · have fr2 : mFr [5, 6, 7, 8, 9, 13, 87, 88, 90] g0 g2 := mFr_t (fr1 : mFr [5, 6, 7, 8, 9, 13, 87, 88, 90] g0 g1) hfr2 (by decide) (by decide)
        have hS5_2 := hR2.2.2.2.2 hq2
        have hS4_2 := hR2.2.2.2.1
        have h14_2 := hR2.1.1
        have hkd_2 := mKd_4 (n := n) (L := L) hR2.1.1
        refine zs_if_ne (tgt := 36) dX13_readOr_31 (by decide) (fun c_2 => ?_) (fun c_2 => (by first | exact absurd c_2 (by decide) | exact absurd (by decide) c_2 : False).elim)
        refine zs_aload_n dX13_readOr_36 rfl rfl ?_
        refine zs_iconst (v := nI 3) dX13_readOr_37 (by decide) ?_
        refine zs_iload_n dX13_readOr_38 rfl ?_
        refine zs_aload_n dX13_readOr_39 rfl rfl ?_
        refine zs_get 0 dX13_readOr_40 zf_RX13_509 rfl (v := .int (g2 90)) rfl ?_
        refine zs_as (y := nI (G2.2.2.2.2.1 - 1)) h90_2 ?_
        refine zs_iconst (v := nI 0) dX13_readOr_43 (by decide) ?_
        refine zs_callV (M := mX13_lays) (As := [.int (nI 3), .int (nI (S.2.1 - 1)), .int (nI (G2.2.2.2.2.1 - 1)), .int (nI 0)]) (st := []) (Kc := [(mo, .inr (11, fMo e g2 w2)), ((e 86), .inl (0, 240, .inl nd2))]) (Kr := [((e 1), .inl (0, 740, .inl (nF bt)))]) [0, 2] [1] 0 dX13_readOr_44 zl_RX13_512 kX13_lays rfl rfl rfl rfl rfl (by decide) rfl rfl (show dd - 1 + 1 ≤ dd by omega) (Nat.zero_le _) (Nat.zero_le _) (Nat.le_of_ble_eq_true rfl) (s_mLays l (dd - 1) mo e g2 w2 nd2 G2.2.2.2.2.1 (nI 3) (nI (S.2.1 - 1)) (nI (G2.2.2.2.2.1 - 1)) (nI 0) (by omega) h87_2) (fun r K1 hr => ?_)
        obtain ⟨rfl, rfl⟩ := hr
        refine zs_K (K' := [(mo, .inr (11, fMo e (upd g2 87 (nI (G2.2.2.2.2.1 + 1))) w2)), ((e 1), .inl (0, 740, .inl (nF bt))), ((e 86), .inl (0, 240, .inl (nLay nd2 G2.2.2.2.2.1 (nI 3) (nI (S.2.1 - 1)) (nI (G2.2.2.2.2.1 - 1)) (nI 0))))]) [1, 0, 2] rfl (by decide) ?_
        refine zs_istore_n (lv' := [(1, .int (nI G2.2.2.2.2.1)), (0, .ref mo)]) dX13_readOr_47 (Nat.le_of_ble_eq_true rfl) rfl ?_
        refine zs_goto (tgt := 14) dX13_readOr_48 (by decide) ?_
        refine zs_lv [1, 0] rfl ?_
        rw [if_neg (fun h => h hwd), hG2, if_pos hq2] at hG
        refine ih G2.2.1 G2.2.2.1 (sAd G2.2.2.2 8 0 0) (upd g2 87 (nI (G2.2.2.2.2.1 + 1))) w2 (nLay nd2 G2.2.2.2.2.1 (nI 3) (nI (S.2.1 - 1)) (nI (G2.2.2.2.2.1 - 1)) (nI 0)) (mFr_u fr2 (by decide)) (mTk_f hT2 rfl rfl rfl rfl rfl) hW2 hR2.1 hR2.2.1 ⟨hS4_2, ?_⟩ ?_ rfl h88_2 ((hfr2 89 (by decide)).trans ((hfr1 89 (by decide)).trans h89)) (Nat.lt_succ_of_lt (Nat.lt_of_lt_of_le hlt0 (Nat.le_of_lt hlt2))) (sAl_t (sAl_t hal hal2) sAl_ad) ?_ hG
        · show G2.2.2.2.2.1 + 1 ≤ 2 * G2.2.2.2.1
          omega
        · show 21 ≤ G2.2.2.2.1 + q
          omega
        · exact sT_two (Or.inr ⟨rfl, rfl⟩) (by omega) (sT_o hal2 (by omega) hsT) (by rw [show S.2.1 - 1 + 1 = S.2.1 by omega]; exact hsT2)
      · skip
        refine zs_if_ne (tgt := 36) dX13_readOr_31 (by decide) (fun c_3 => (by first | exact absurd c_3 (by decide) | exact absurd (by decide) c_3 : False).elim) (fun c_3 => ?_)
        refine zs_iconst (v := nI 0) dX13_readOr_34 (by decide) ?_
        have er : G = G2 := by rw [← hG, if_neg (fun h => h hwd), hG2, if_neg hq2]
        exact zs_zret dX13_readOr_35 rfl (Or.inl rfl) (hP _ _ (Or.inr ⟨by rw [er]; exact hq2, rfl, g2, w2, nd2, (mFr_t (fr1 : mFr [5, 6, 7, 8, 9, 13, 87, 88, 90] g0 g1) hfr2 (by decide) (by decide) : mFr [5, 6, 7, 8, 9, 10, 11, 13, 87, 88, 90] g0 g2), by rw [er]; exact h10_2, by rw [er]; exact h11_2, rfl⟩))
set_option maxRecDepth 100000 in
theorem s_mOr (l : Launch) (dd d : Nat) (mo : Nat) (e : Nat → Nat) (n L : Nat) (bt : Nat → Nat) (hn : n ≤ 740) (hL : L ≤ 740) (hbt : ∀ j, bt j < 256) (hd : 4 ≤ dd) (f : zTk → Nat → zSe → zPs) (hfG : sG f) (hC : rCt l mX13_readAnd (dd - 1) d mo e n L bt f) : rCt l mX13_readOr dd d mo e n L bt (sJo bt n L 20 8 f) := fun t tk S g w nd h3 h4 hT hW hO htk hS h87 h88 h89 => by
  have hS2 := hS.2
  have hS1 := hS.1
  have h14 := hO.1
  have hkd := mKd_4 (n := n) (L := L) hO.1
  refine zSp.of (by decide) (Nat.le_of_ble_eq_true rfl) (fun h0 => ?_)
  show zS _ 0 0 0 [(0, .ref mo)] [] [(mo, .inr (11, fMo e g w)), ((e 1), .inl (0, 740, .inl (nF bt))), ((e 86), .inl (0, 240, .inl nd))]
  refine zs_aload_n dX13_readOr_0 rfl rfl ?_
  refine zs_callV (M := mX13_readAnd) (As := []) (st := []) (Kc := [(mo, .inr (11, fMo e g w)), ((e 1), .inl (0, 740, .inl (nF bt))), ((e 86), .inl (0, 240, .inl nd))]) (Kr := []) [0, 1, 2] [] 0 dX13_readOr_1 zl_RX13_506 kX13_readAnd rfl rfl rfl rfl rfl (by decide) rfl rfl (show dd - 1 + 1 ≤ dd by omega) (Nat.zero_le _) (Nat.zero_le _) (Nat.le_of_ble_eq_true rfl) (hC t tk S g w nd h3 h4 hT hW hO htk hS h87 h88 h89) (fun r K1 hr => ?_)
  have hR1 := hfG t tk S hO htk hS
  generalize hG1 : f t tk S = G1 at hr hR1
  rcases hr with ⟨hq1, rfl, g1, w1, nd1, hfr1, hT1, hW1, h87_1, h88_1, h90_1, hlt1, hal1, hsT1, rfl⟩ | ⟨hq1, rfl, g1, w1, nd1, hfr1, h10_1, h11_1, rfl⟩
  · have fr1 : mFr [5, 6, 7, 8, 9, 13, 87, 88, 90] g g1 := mFr_t (mFr_r : mFr [5, 6, 7, 8, 9, 13, 87, 88, 90] g g) hfr1 (by decide) (by decide)
    have hS5_1 := hR1.2.2.2.2 hq1
    have hS4_1 := hR1.2.2.2.1
    have h14_1 := hR1.1.1
    have hkd_1 := mKd_4 (n := n) (L := L) hR1.1.1
    refine zs_if_ne (tgt := 9) dX13_readOr_4 (by decide) (fun c_1 => ?_) (fun c_1 => (by first | exact absurd c_1 (by decide) | exact absurd (by decide) c_1 : False).elim)
    refine zs_aload_n dX13_readOr_9 rfl rfl ?_
    refine zs_get 0 dX13_readOr_10 zf_RX13_509 rfl (v := .int (g1 90)) rfl ?_
    refine zs_as (y := nI (G1.2.2.2.2.1 - 1)) h90_1 ?_
    refine zs_istore_n (lv' := [(1, .int (nI (G1.2.2.2.2.1 - 1))), (0, .ref mo)]) dX13_readOr_13 (Nat.le_of_ble_eq_true rfl) rfl ?_
    have er : sJo bt n L 20 8 f t tk S = sJn bt n L 20 8 f 20 G1.2.1 G1.2.2.1 G1.2.2.2 := by rw [sJo, hG1, if_pos hq1]
    refine zs_lv [1, 0] rfl ?_
    exact lp_mOr mo e n L bt hn hL hbt d hd f hfG hC S g nd h3 h4 (sJo bt n L 20 8 f t tk S) (fun r K1 h => h) 20 G1.2.1 G1.2.2.1 G1.2.2.2 g1 w1 nd1 fr1 hT1 hW1 hR1.1 hR1.2.1 ⟨hS4_1, by omega⟩ (by omega) h87_1 h88_1 ((hfr1 89 (by decide)).trans h89) hlt1 hal1 hsT1 er.symm
  · skip
    refine zs_if_ne (tgt := 9) dX13_readOr_4 (by decide) (fun c_2 => (by first | exact absurd c_2 (by decide) | exact absurd (by decide) c_2 : False).elim) (fun c_2 => ?_)
    refine zs_iconst (v := nI 0) dX13_readOr_7 (by decide) ?_
    have er : sJo bt n L 20 8 f t tk S = G1 := by rw [sJo, hG1, if_neg hq1]
    exact zs_zret dX13_readOr_8 rfl (Or.inl rfl) (Or.inr ⟨by rw [er]; exact hq1, rfl, g1, w1, nd1, (mFr_t (mFr_r : mFr [5, 6, 7, 8, 9, 13, 87, 88, 90] g g) hfr1 (by decide) (by decide) : mFr [5, 6, 7, 8, 9, 10, 11, 13, 87, 88, 90] g g1), by rw [er]; exact h10_1, by rw [er]; exact h11_1, rfl⟩)
