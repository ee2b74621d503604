/-! ===== the reference: readTold ===== -/
theorem hP12_k {P : zPl} {v kd : Nat} (hP : ∀ i, i < P.1 → P.2.2.1 i ≤ 1 → P.2.2.2.1 i ≤ 12) : ∀ i, i < (pWk (pWt P v) kd).1 → (pWk (pWt P v) kd).2.2.1 i ≤ 1 → (pWk (pWt P v) kd).2.2.2.1 i ≤ 12 := fun i hi h => by
  have hi : i < P.1 := hi
  have h : un P.2.2.1 P.1 kd i ≤ 1 := h
  rw [un_n (show i ≠ P.1 by omega)] at h
  exact hP i hi h
theorem mMs_n {b : Nat → Nat} {n L : Nat} {D : zYd} {lst : Nat} : ∀ {q k : Nat} {τ : zTk} {tk : Nat} {P : zPl}, (mMs b n L D lst q k τ tk P).2.2.2.1 = P.1
  | 0, _, _, _, _ => rfl
  | q + 1, k, τ, tk, P => by
    unfold mMs
    split
    · rfl
    · split
      · rfl
      · split
        · rfl
        · split
          · rfl
          · split
            · rfl
            · exact mMs_n
set_option maxRecDepth 100000 in
theorem s_mReadTold (l : Launch) (dd : Nat) (mo : Nat) (e : Nat → Nat) (g : Nat → Int32) (w : Int64) (n L : Nat) (bt : Nat → Nat) (t : zTk) (tk ee : Nat) (D : zYd) (nw : Nat → Int32) (nm : Nat → Int64) (P : zPl) (pf : Nat → Int32) (hd : 5 ≤ dd) (hn : n ≤ 740) (hL : L ≤ 740) (hbt : ∀ j, bt j < 256) (h3 : g 3 = nI n) (h4 : g 4 = nI L) (hT : mTk n L t g w) (hW : tW n L t) (hO : tOK t) (hD : yI D) (hy : mYd D nw nm) (h84 : g 84 = nI P.1) (hP20 : P.1 ≤ 20) (hP12 : ∀ i, i < P.1 → P.2.2.1 i ≤ 1 → P.2.2.2.1 i ≤ 12) (hR : ∀ i, i < P.1 → pE P pf i) (hee : ee = if P.1 = 0 then 0 else P.2.1 (P.1 - 1)) (hee59 : ee ≤ 59) : zSp l mX13_readTold dd 0 0 [.ref mo] [(mo, .inr (11, fMo e g w)), ((e 1), .inl (0, 740, .inl (nF bt))), ((e 14), .inl (0, 800, .inl nw)), ((e 18), .inl (2, 12, .inr (.inl nm))), ((e 16), .inl (0, 320, .inl pf))] (fun r K' => ((mTd bt n L D ee t tk P).1 = 0 ∧ r = some (.int 1) ∧ ∃ g' w' pf', mFr [5, 6, 7, 8, 9, 13, 23, 84] g g' ∧ mTk n L (mTd bt n L D ee t tk P).2.1 g' w' ∧ tW n L (mTd bt n L D ee t tk P).2.1 ∧ tOK (mTd bt n L D ee t tk P).2.1 ∧ g' 84 = nI (P.1 + 1) ∧ (mTd bt n L D ee t tk P).2.2.2.1 = P.1 + 1 ∧ (∀ i, i < P.1 + 1 → pE (mTd bt n L D ee t tk P).2.2.2 pf' i) ∧ K' = [(mo, .inr (11, fMo e g' w')), ((e 1), .inl (0, 740, .inl (nF bt))), ((e 14), .inl (0, 800, .inl nw)), ((e 18), .inl (2, 12, .inr (.inl nm))), ((e 16), .inl (0, 320, .inl (pf')))]) ∨ (¬ (mTd bt n L D ee t tk P).1 = 0 ∧ r = some (.int 0) ∧ ∃ g' w' pf', mFr [5, 6, 7, 8, 9, 10, 11, 13, 23, 84] g g' ∧ g' 10 = nI (mTd bt n L D ee t tk P).1 ∧ g' 11 = nI (mTd bt n L D ee t tk P).2.1.2.1 ∧ K' = [(mo, .inr (11, fMo e g' w')), ((e 1), .inl (0, 740, .inl (nF bt))), ((e 14), .inl (0, 800, .inl nw)), ((e 18), .inl (2, 12, .inr (.inl nm))), ((e 16), .inl (0, 320, .inl (pf')))])) := by
  refine zSp.of (by decide) (Nat.le_of_ble_eq_true rfl) (fun h0 => ?_)
  show zS _ 0 0 0 [(0, .ref mo)] [] [(mo, .inr (11, fMo e g w)), ((e 1), .inl (0, 740, .inl (nF bt))), ((e 14), .inl (0, 800, .inl nw)), ((e 18), .inl (2, 12, .inr (.inl nm))), ((e 16), .inl (0, 320, .inl pf))]
  have hC8 := hD.2.1
  refine zs_aload_n dX13_readTold_0 rfl rfl ?_
  refine zs_bipush (v := nI 14) dX13_readTold_1 (by decide) ?_
  refine zs_callV (M := mX13_isWord) (As := [.int (nI 14)]) (st := []) (Kc := [(mo, .inr (11, fMo e g w))]) (Kr := [((e 1), .inl (0, 740, .inl (nF bt))), ((e 14), .inl (0, 800, .inl nw)), ((e 18), .inl (2, 12, .inr (.inl nm))), ((e 16), .inl (0, 320, .inl pf))]) [0] [1, 2, 3, 4] 0 dX13_readTold_3 zl_RX13_264 kX13_isWord rfl rfl rfl rfl rfl (by decide) rfl rfl (show dd - 1 + 1 ≤ dd by omega) (Nat.zero_le _) (Nat.zero_le _) (Nat.le_of_ble_eq_true rfl) (s_mIsWord l (dd - 1) mo e g w n L t 14 (by omega) (by omega) hT hW hO) (fun r K1 hr => ?_)
  obtain ⟨rfl, rfl⟩ := hr
  refine zs_K (K' := [(mo, .inr (11, fMo e g w)), ((e 1), .inl (0, 740, .inl (nF bt))), ((e 14), .inl (0, 800, .inl nw)), ((e 18), .inl (2, 12, .inr (.inl nm))), ((e 16), .inl (0, 320, .inl pf))]) [4, 0, 1, 2, 3] rfl (by decide) ?_
  refine zs_if_ne (tgt := 15) dX13_readTold_6 (by decide) (fun c_1 => ?_) (fun c_1 => ?_)
  · have h14 : t.2.2.2.2 = some 14 := of_decide_eq_true (bI_t c_1)
    have hk2 : t.1 = 2 := hO.2.2.2.2.2.2.2.2 _ h14
    refine zs_aload_n dX13_readTold_15 rfl rfl ?_
    refine zs_get 0 dX13_readTold_16 zf_RX13_491 rfl (v := .int (g 84)) rfl ?_
    refine zs_as (y := nI P.1) h84 ?_
    refine zs_bipush (v := nI 20) dX13_readTold_19 (by decide) ?_
    refine zs_icmp_ne (tgt := 30) dX13_readTold_21 (by decide) (fun c_2 => ?_) (fun c_2 => ?_)
    · have c_2 : ¬ (P.1 = 20) := by have hc := c_2; rw [nI_eq' (by omega) (by omega)] at hc; exact hc
      have h20 : P.1 < 20 := by omega
      refine zs_bipush (v := nI 16) dX13_readTold_30 (by decide) ?_
      refine zs_aload_n dX13_readTold_32 rfl rfl ?_
      refine zs_get 0 dX13_readTold_33 zf_RX13_491 rfl (v := .int (g 84)) rfl ?_
      refine zs_as (y := nI P.1) h84 ?_
      refine zs_imul dX13_readTold_36 ?_
      refine zs_as (y := nI (16 * P.1)) (nI_mul _ _) ?_
      refine zs_istore_n (lv' := [(1, .int (nI (16 * P.1))), (0, .ref mo)]) dX13_readTold_37 (Nat.le_of_ble_eq_true rfl) rfl ?_
      refine zs_aload_n dX13_readTold_38 rfl rfl ?_
      refine zs_callV (M := mX13_go) (As := []) (st := []) (Kc := [(mo, .inr (11, fMo e g w)), ((e 1), .inl (0, 740, .inl (nF bt)))]) (Kr := [((e 14), .inl (0, 800, .inl nw)), ((e 18), .inl (2, 12, .inr (.inl nm))), ((e 16), .inl (0, 320, .inl pf))]) [0, 1] [2, 3, 4] 0 dX13_readTold_39 zl_RX13_226 kX13_go rfl rfl rfl rfl rfl (by decide) rfl rfl (show dd - 1 + 1 ≤ dd by omega) (Nat.zero_le _) (Nat.zero_le _) (Nat.le_of_ble_eq_true rfl) (s_mGoT l (dd - 1) mo e g w n L bt t (by omega) hn hL hbt h3 h4 hT hW (show ¬ t.1 = 0 by omega)) (fun r K1 hr => ?_)
      obtain ⟨rfl, g1, w1, hfr1, hT1, rfl⟩ := hr
      refine zs_K (K' := [(mo, .inr (11, fMo e g1 w1)), ((e 1), .inl (0, 740, .inl (nF bt))), ((e 14), .inl (0, 800, .inl nw)), ((e 18), .inl (2, 12, .inr (.inl nm))), ((e 16), .inl (0, 320, .inl pf))]) [3, 4, 0, 1, 2] rfl (by decide) ?_
      have fr1 : mFr [5, 6, 7, 8, 9, 13, 23, 84] g g1 := mFr_t (mFr_r : mFr [5, 6, 7, 8, 9, 13, 23, 84] g g) hfr1 (by decide) (by decide)
      have h3_1 : g1 3 = nI n := (hfr1 3 (by decide)).trans h3
      have h4_1 : g1 4 = nI L := (hfr1 4 (by decide)).trans h4
      have h23_1 : g1 23 = g 23 := hfr1 23 (by decide)
      have hO_1 := nxt_OK (L := L) (τ := t) hbt hn
      have h14_1 := hO_1.1
      have hkd_1 := mKd_4 (n := n) (L := L) hO_1.1
      have h84_1 : g1 84 = nI P.1 := (hfr1 84 (by decide)).trans h84
      refine zs_aload_n dX13_readTold_42 rfl rfl ?_
      refine zs_aload_n dX13_readTold_43 rfl rfl ?_
      refine zs_get 0 dX13_readTold_44 zf_RX13_491 rfl (v := .int (g1 84)) rfl ?_
      refine zs_as (y := nI P.1) h84_1 ?_
      refine zs_if_ne (tgt := 54) dX13_readTold_47 (by decide) (fun c_3 => ?_) (fun c_3 => ?_)
      · have c_3 : ¬ (P.1 = 0) := by have hc := c_3; rw [show (0 : Int32) = nI 0 from rfl] at hc; rw [nI_eq' (by omega) (by omega)] at hc; exact hc
        have hP0 : ¬ P.1 = 0 := c_3
        refine zs_aload_n dX13_readTold_54 rfl rfl ?_
        refine zs_get 0 dX13_readTold_55 zf_RX13_19 rfl (v := .ref (e 16)) rfl ?_
        refine zs_iload_n dX13_readTold_58 rfl ?_
        refine zs_bipush (v := nI 16) dX13_readTold_59 (by decide) ?_
        refine zs_isub dX13_readTold_61 ?_
        refine zs_as (y := nI ((16 * P.1) - 16)) (nI_sub (by omega)) ?_
        refine zs_iald 4 dX13_readTold_62 rfl (vp_in_nI (by omega) (by omega)) ?_
        refine zs_as (y := nI ee) (by rw [nI_c (by omega), hee, if_neg hP0, show 16 * P.1 - 16 = 16 * (P.1 - 1) by omega]; exact (hR (P.1 - 1) (by omega)).1) ?_
        refine zs_bipush (v := nI 59) dX13_readTold_63 (by decide) ?_
        refine zs_callV (M := mX13_readNumber) (As := [.int (nI ee), .int (nI 59)]) (st := []) (Kc := [(mo, .inr (11, fMo e g1 w1)), ((e 1), .inl (0, 740, .inl (nF bt)))]) (Kr := [((e 14), .inl (0, 800, .inl nw)), ((e 18), .inl (2, 12, .inr (.inl nm))), ((e 16), .inl (0, 320, .inl pf))]) [0, 1] [2, 3, 4] 0 dX13_readTold_65 zl_RX13_251 kX13_readNumber rfl rfl rfl rfl rfl (by decide) rfl rfl (show dd - 1 + 1 ≤ dd by omega) (Nat.zero_le _) (Nat.zero_le _) (Nat.le_of_ble_eq_true rfl) (s_mReadNumber l (dd - 1) mo e g1 w1 n L bt (nxt bt n L t) ee 59 (by omega) hn hL hbt h3_1 h4_1 hT1 (nxt_W (b := bt) (n := n) (L := L) (τ := t)) hO_1 (by omega) (by omega)) (fun r K1 hr => ?_)
        rcases hr with ⟨hq2, rfl, g2, w2, hfr2, h13_2, hT2, rfl⟩ | ⟨hq2, rfl, rfl⟩
        · refine zs_K (K' := [(mo, .inr (11, fMo e g2 w2)), ((e 1), .inl (0, 740, .inl (nF bt))), ((e 14), .inl (0, 800, .inl nw)), ((e 18), .inl (2, 12, .inr (.inl nm))), ((e 16), .inl (0, 320, .inl pf))]) [3, 4, 0, 1, 2] rfl (by decide) ?_
          have fr2 : mFr [5, 6, 7, 8, 9, 13, 23, 84] g g2 := mFr_t (fr1 : mFr [5, 6, 7, 8, 9, 13, 23, 84] g g1) hfr2 (by decide) (by decide)
          have h3_2 : g2 3 = nI n := (hfr2 3 (by decide)).trans h3_1
          have h4_2 : g2 4 = nI L := (hfr2 4 (by decide)).trans h4_1
          have h23_2 : g2 23 = g1 23 := hfr2 23 (by decide)
          have hO_2 := nxt_OK (L := L) (τ := (nxt bt n L t)) hbt hn
          have h14_2 := hO_2.1
          have hkd_2 := mKd_4 (n := n) (L := L) hO_2.1
          have h84_2 : g2 84 = nI P.1 := (hfr2 84 (by decide)).trans h84_1
          have hr2 := tNu_r hq2
          refine zs_if_ne (tgt := 73) dX13_readTold_68 (by decide) (fun c_4 => ?_) (fun c_4 => (by first | exact absurd c_4 (by decide) | exact absurd (by decide) c_4 : False).elim)
          refine zs_aload_n dX13_readTold_73 rfl rfl ?_
          refine zs_get 0 dX13_readTold_74 zf_RX13_19 rfl (v := .ref (e 16)) rfl ?_
          refine zs_iload_n dX13_readTold_77 rfl ?_
          refine zs_aload_n dX13_readTold_78 rfl rfl ?_
          refine zs_get 0 dX13_readTold_79 zf_RX13_223 rfl (v := .int (g2 13)) rfl ?_
          refine zs_as (y := nI (nxt bt n L t).2.2.2.1) h13_2 ?_
          refine zs_iast 4 dX13_readTold_82 rfl (vp_in_nI (by omega) (by omega)) ?_
          rw [nI_c (n := 16 * P.1) (by omega)]
          show zS _ _ _ _ _ _ [(mo, .inr (11, fMo e g2 w2)), ((e 1), .inl (0, 740, .inl (nF bt))), ((e 14), .inl (0, 800, .inl nw)), ((e 18), .inl (2, 12, .inr (.inl nm))), ((e 16), .inl (0, 320, .inl (upd pf (16 * P.1) (nI (nxt bt n L t).2.2.2.1))))]
          refine zs_bipush (v := nI 15) dX13_readTold_83 (by decide) ?_
          refine zs_istore_n (lv' := [(2, .int (nI 15)), (1, .int (nI (16 * P.1))), (0, .ref mo)]) dX13_readTold_85 (Nat.le_of_ble_eq_true rfl) rfl ?_
          refine zs_iload_n dX13_readTold_86 rfl ?_
          refine zs_bipush (v := nI 19) dX13_readTold_87 (by decide) ?_
          refine zs_icmp_gt (tgt := 106) dX13_readTold_89 (by decide) (fun c_5 => (by first | exact absurd c_5 (by decide) | exact absurd (by decide) c_5 : False).elim) (fun c_5 => ?_)
          refine zs_aload_n dX13_readTold_92 rfl rfl ?_
          refine zs_iload_n dX13_readTold_93 rfl ?_
          refine zs_callV (M := mX13_isWord) (As := [.int (nI 15)]) (st := []) (Kc := [(mo, .inr (11, fMo e g2 w2))]) (Kr := [((e 1), .inl (0, 740, .inl (nF bt))), ((e 14), .inl (0, 800, .inl nw)), ((e 18), .inl (2, 12, .inr (.inl nm))), ((e 16), .inl (0, 320, .inl (upd pf (16 * P.1) (nI (nxt bt n L t).2.2.2.1))))]) [0] [1, 2, 3, 4] 0 dX13_readTold_94 zl_RX13_264 kX13_isWord rfl rfl rfl rfl rfl (by decide) rfl rfl (show dd - 1 + 1 ≤ dd by omega) (Nat.zero_le _) (Nat.zero_le _) (Nat.le_of_ble_eq_true rfl) (s_mIsWord l (dd - 1) mo e g2 w2 n L (nxt bt n L (nxt bt n L t)) 15 (by omega) (by omega) hT2 (nxt_W (b := bt) (n := n) (L := L) (τ := (nxt bt n L t))) hO_2) (fun r K1 hr => ?_)
          obtain ⟨rfl, rfl⟩ := hr
          refine zs_K (K' := [(mo, .inr (11, fMo e g2 w2)), ((e 1), .inl (0, 740, .inl (nF bt))), ((e 14), .inl (0, 800, .inl nw)), ((e 18), .inl (2, 12, .inr (.inl nm))), ((e 16), .inl (0, 320, .inl (upd pf (16 * P.1) (nI (nxt bt n L t).2.2.2.1))))]) [4, 0, 1, 2, 3] rfl (by decide) ?_
          refine zs_if_ne (tgt := 106) dX13_readTold_97 (by decide) (fun c_6 => ?_) (fun c_6 => ?_)
          · have hw : (nxt bt n L (nxt bt n L t)).2.2.2.2 = some 15 := of_decide_eq_true (bI_t c_6)
            have hk22 : (nxt bt n L (nxt bt n L t)).1 = 2 := hO_2.2.2.2.2.2.2.2.2 _ hw
            refine zs_iload_n dX13_readTold_106 rfl ?_
            refine zs_bipush (v := nI 19) dX13_readTold_107 (by decide) ?_
            refine zs_icmp_le (tgt := 118) dX13_readTold_109 (by decide) (fun c_7 => ?_) (fun c_7 => (by first | exact absurd c_7 (by decide) | exact absurd (by decide) c_7 : False).elim)
            refine zs_aload_n dX13_readTold_118 rfl rfl ?_
            refine zs_get 0 dX13_readTold_119 zf_RX13_19 rfl (v := .ref (e 16)) rfl ?_
            refine zs_iload_n dX13_readTold_122 rfl ?_
            refine zs_iconst (v := nI 1) dX13_readTold_123 (by decide) ?_
            refine zs_iadd dX13_readTold_124 ?_
            refine zs_as (y := nI ((16 * P.1) + 1)) (nI_add _ _) ?_
            refine zs_iload_n dX13_readTold_125 rfl ?_
            refine zs_bipush (v := nI 15) dX13_readTold_126 (by decide) ?_
            refine zs_isub dX13_readTold_128 ?_
            refine zs_as (y := nI (15 - 15)) (nI_sub (by omega)) ?_
            refine zs_iast 4 dX13_readTold_129 rfl (vp_in_nI (by omega) (by omega)) ?_
            rw [nI_c (n := (16 * P.1) + 1) (by omega)]
            show zS _ _ _ _ _ _ [(mo, .inr (11, fMo e g2 w2)), ((e 1), .inl (0, 740, .inl (nF bt))), ((e 14), .inl (0, 800, .inl nw)), ((e 18), .inl (2, 12, .inr (.inl nm))), ((e 16), .inl (0, 320, .inl (upd (upd pf (16 * P.1) (nI (nxt bt n L t).2.2.2.1)) ((16 * P.1) + 1) (nI (15 - 15)))))]
            refine zs_aload_n dX13_readTold_130 rfl rfl ?_
            refine zs_callV (M := mX13_go) (As := []) (st := []) (Kc := [(mo, .inr (11, fMo e g2 w2)), ((e 1), .inl (0, 740, .inl (nF bt)))]) (Kr := [((e 14), .inl (0, 800, .inl nw)), ((e 18), .inl (2, 12, .inr (.inl nm))), ((e 16), .inl (0, 320, .inl (upd (upd pf (16 * P.1) (nI (nxt bt n L t).2.2.2.1)) ((16 * P.1) + 1) (nI (15 - 15)))))]) [0, 1] [2, 3, 4] 0 dX13_readTold_131 zl_RX13_226 kX13_go rfl rfl rfl rfl rfl (by decide) rfl rfl (show dd - 1 + 1 ≤ dd by omega) (Nat.zero_le _) (Nat.zero_le _) (Nat.le_of_ble_eq_true rfl) (s_mGoT l (dd - 1) mo e g2 w2 n L bt (nxt bt n L (nxt bt n L t)) (by omega) hn hL hbt h3_2 h4_2 hT2 (nxt_W (b := bt) (n := n) (L := L) (τ := (nxt bt n L t))) (show ¬ (nxt bt n L (nxt bt n L t)).1 = 0 by omega)) (fun r K1 hr => ?_)
            obtain ⟨rfl, g3, w3, hfr3, hT3, rfl⟩ := hr
            refine zs_K (K' := [(mo, .inr (11, fMo e g3 w3)), ((e 1), .inl (0, 740, .inl (nF bt))), ((e 14), .inl (0, 800, .inl nw)), ((e 18), .inl (2, 12, .inr (.inl nm))), ((e 16), .inl (0, 320, .inl (upd (upd pf (16 * P.1) (nI (nxt bt n L t).2.2.2.1)) ((16 * P.1) + 1) (nI (15 - 15)))))]) [3, 4, 0, 1, 2] rfl (by decide) ?_
            have fr3 : mFr [5, 6, 7, 8, 9, 13, 23, 84] g g3 := mFr_t (fr2 : mFr [5, 6, 7, 8, 9, 13, 23, 84] g g2) hfr3 (by decide) (by decide)
            have h3_3 : g3 3 = nI n := (hfr3 3 (by decide)).trans h3_2
            have h4_3 : g3 4 = nI L := (hfr3 4 (by decide)).trans h4_2
            have h23_3 : g3 23 = g2 23 := hfr3 23 (by decide)
            have hO_3 := nxt_OK (L := L) (τ := (nxt bt n L (nxt bt n L t))) hbt hn
            have h14_3 := hO_3.1
            have hkd_3 := mKd_4 (n := n) (L := L) hO_3.1
            have h84_3 : g3 84 = nI P.1 := (hfr3 84 (by decide)).trans h84_2
            refine zs_iload_n dX13_readTold_134 rfl ?_
            refine zs_bipush (v := nI 15) dX13_readTold_135 (by decide) ?_
            refine zs_icmp_eq (tgt := 146) dX13_readTold_137 (by decide) (fun c_8 => ?_) (fun c_8 => (by first | exact absurd c_8 (by decide) | exact absurd (by decide) c_8 : False).elim)
            refine zs_aload_n dX13_readTold_146 rfl rfl ?_
            refine zs_iload_n dX13_readTold_147 rfl ?_
            refine zs_iload_n dX13_readTold_148 rfl ?_
            refine zs_bipush (v := nI 15) dX13_readTold_149 (by decide) ?_
            refine zs_icmp_ne (tgt := 158) dX13_readTold_151 (by decide) (fun c_9 => (by first | exact absurd c_9 (by decide) | exact absurd (by decide) c_9 : False).elim) (fun c_9 => ?_)
            refine zs_iconst (v := nI 2) dX13_readTold_154 (by decide) ?_
            refine zs_goto (tgt := 159) dX13_readTold_155 (by decide) ?_
            refine zs_callV (M := mX13_readMen) (As := [.int (nI (16 * P.1)), .int (nI 2)]) (st := []) (Kc := [(mo, .inr (11, fMo e g3 w3)), ((e 1), .inl (0, 740, .inl (nF bt))), ((e 14), .inl (0, 800, .inl nw)), ((e 18), .inl (2, 12, .inr (.inl nm))), ((e 16), .inl (0, 320, .inl (upd (upd pf (16 * P.1) (nI (nxt bt n L t).2.2.2.1)) ((16 * P.1) + 1) (nI (15 - 15)))))]) (Kr := []) [0, 1, 2, 3, 4] [] 0 dX13_readTold_159 zl_RX13_494 kX13_readMen rfl rfl rfl rfl rfl (by decide) rfl rfl (show dd - 1 + 1 ≤ dd by omega) (Nat.zero_le _) (Nat.zero_le _) (Nat.le_of_ble_eq_true rfl) (s_mPMen l (dd - 1) mo e n L bt (nxt bt n L t).2.2.2.1 D nw nm 2 g3 w3 (nxt bt n L (nxt bt n L (nxt bt n L t))) (pWk (pWt P (nxt bt n L t).2.2.2.1) 0) (upd (upd pf (16 * P.1) (nI (nxt bt n L t).2.2.2.1)) ((16 * P.1) + 1) (nI (15 - 15))) (by omega) hn hL hbt h3_3 h4_3 hD hy (by decide) hT3 (nxt_W (b := bt) (n := n) (L := L) (τ := (nxt bt n L (nxt bt n L t)))) hO_3 h20 (hP12_k hP12) (pRk_0 hP12 hR)) (fun r K1 hr => ?_)
            rcases hr with ⟨hq, rfl, gm, wm, pfm, hfrm, hTm, hWm, hOm, hRm, rfl⟩ | ⟨hq, rfl, gm, wm, pfm, hfrm, h10m, h11m, rfl⟩
            · have hfm := mFr_t (fr3 : mFr [5, 6, 7, 8, 9, 13, 23, 84] g g3) hfrm (U := [5, 6, 7, 8, 9, 13, 23, 84]) (by decide) (by decide)
              have h84m : gm 84 = nI P.1 := (hfrm 84 (by decide)).trans h84_3
              refine zs_if_ne (tgt := 240) dX13_readTold_162 (by decide) (fun c_10 => ?_) (fun c_10 => (by first | exact absurd c_10 (by decide) | exact absurd (by decide) c_10 : False).elim)
              refine zs_aload_n dX13_readTold_240 rfl rfl ?_
              refine zs_dup dX13_readTold_241 rfl ?_
              refine zs_get 0 dX13_readTold_242 zf_RX13_491 rfl (v := .int (gm 84)) rfl ?_
              refine zs_as (y := nI P.1) h84m ?_
              refine zs_iconst (v := nI 1) dX13_readTold_245 (by decide) ?_
              refine zs_iadd dX13_readTold_246 ?_
              refine zs_as (y := nI (P.1 + 1)) (nI_add _ _) ?_
              refine zs_put 0 dX13_readTold_247 zf_RX13_491 rfl (Nat.le_of_ble_eq_true rfl) (zPv_i _) ?_
              show zS _ _ _ _ _ _ [(mo, .inr (11, fMo e (upd gm 84 (nI (P.1 + 1))) wm)), ((e 1), .inl (0, 740, .inl (nF bt))), ((e 14), .inl (0, 800, .inl nw)), ((e 18), .inl (2, 12, .inr (.inl nm))), ((e 16), .inl (0, 320, .inl pfm))]
              refine zs_aload_n dX13_readTold_250 rfl rfl ?_
              refine zs_callV (M := mX13_readEnd) (As := []) (st := []) (Kc := [(mo, .inr (11, fMo e (upd gm 84 (nI (P.1 + 1))) wm)), ((e 1), .inl (0, 740, .inl (nF bt)))]) (Kr := [((e 14), .inl (0, 800, .inl nw)), ((e 18), .inl (2, 12, .inr (.inl nm))), ((e 16), .inl (0, 320, .inl pfm))]) [0, 1] [2, 3, 4] 0 dX13_readTold_251 zl_RX13_279 kX13_readEnd rfl rfl rfl rfl rfl (by decide) rfl rfl (show dd - 1 + 1 ≤ dd by omega) (Nat.zero_le _) (Nat.zero_le _) (Nat.le_of_ble_eq_true rfl) (s_mReadEnd l (dd - 1) mo e (upd gm 84 (nI (P.1 + 1))) wm n L bt (mMs bt n L D 2 13 0 (nxt bt n L (nxt bt n L (nxt bt n L t))) (nxt bt n L t).2.2.2.1 (pWk (pWt P (nxt bt n L t).2.2.2.1) 0)).2.1 (by omega) hn hL hbt ((hfrm 3 (by decide)).trans h3_3) ((hfrm 4 (by decide)).trans h4_3) (mTk_f hTm rfl rfl rfl rfl rfl) hWm hOm) (fun r K1 hr => ?_)
              rcases hr with ⟨h59, rfl, ge, we, hfre, hTe, rfl⟩ | ⟨h59, rfl, rfl⟩
              · refine zs_K (K' := [(mo, .inr (11, fMo e ge we)), ((e 1), .inl (0, 740, .inl (nF bt))), ((e 14), .inl (0, 800, .inl nw)), ((e 18), .inl (2, 12, .inr (.inl nm))), ((e 16), .inl (0, 320, .inl pfm))]) [3, 4, 0, 1, 2] rfl (by decide) ?_
                have hTh : pThing bt n L D (nxt bt n L (nxt bt n L t)) (nxt bt n L t).2.2.2.1 (pWt P (nxt bt n L t).2.2.2.1) = pMs bt n L D 2 13 0 (nxt bt n L (nxt bt n L (nxt bt n L t))) (nxt bt n L t).2.2.2.1 (pWk (pWt P (nxt bt n L t).2.2.2.1) 0) := by rw [pThing, if_pos hw]
                have hp := mMs_p bt n L D 2 13 0 (nxt bt n L (nxt bt n L (nxt bt n L t))) (nxt bt n L t).2.2.2.1 (pWk (pWt P (nxt bt n L t).2.2.2.1) 0)
                rcases hp with he | ⟨_, h1, _, _⟩
                · have er : (mTd bt n L D ee t tk P) = (0, nxt bt n L (mMs bt n L D 2 13 0 (nxt bt n L (nxt bt n L (nxt bt n L t))) (nxt bt n L t).2.2.2.1 (pWk (pWt P (nxt bt n L t).2.2.2.1) 0)).2.1, (mMs bt n L D 2 13 0 (nxt bt n L (nxt bt n L (nxt bt n L t))) (nxt bt n L t).2.2.2.1 (pWk (pWt P (nxt bt n L t).2.2.2.1) 0)).2.2.1, (P.1 + 1, (mMs bt n L D 2 13 0 (nxt bt n L (nxt bt n L (nxt bt n L t))) (nxt bt n L t).2.2.2.1 (pWk (pWt P (nxt bt n L t).2.2.2.1) 0)).2.2.2.2)) := by rw [mTd_t h14 (by omega) hq2 hTh, ← he, if_neg (fun h => h hq), if_pos h59]
                  exact zs_zret dX13_readTold_254 rfl (Or.inr rfl) (Or.inl ⟨by rw [er], rfl, ge, we, pfm, mFr_t (mFr_u hfm (by decide) : mFr [5, 6, 7, 8, 9, 13, 23, 84] g (upd gm 84 (nI (P.1 + 1)))) hfre (by decide) (by decide), by rw [er]; exact hTe, by rw [er]; exact nxt_W, by rw [er]; exact nxt_OK hbt hn, (hfre 84 (by decide)).trans rfl, by rw [er], by rw [er]; exact fun i hi => hRm i (by rw [mMs_n]; exact hi), rfl⟩)
                · rw [h59] at h1; exact absurd h1 (by decide)
              · refine zs_K (K' := [(mo, .inr (11, fMo e (mFa (upd gm 84 (nI (P.1 + 1))) 1 ((mMs bt n L D 2 13 0 (nxt bt n L (nxt bt n L (nxt bt n L t))) (nxt bt n L t).2.2.2.1 (pWk (pWt P (nxt bt n L t).2.2.2.1) 0)).2.1)) wm)), ((e 1), .inl (0, 740, .inl (nF bt))), ((e 14), .inl (0, 800, .inl nw)), ((e 18), .inl (2, 12, .inr (.inl nm))), ((e 16), .inl (0, 320, .inl pfm))]) [3, 4, 0, 1, 2] rfl (by decide) ?_
                have hTh : pThing bt n L D (nxt bt n L (nxt bt n L t)) (nxt bt n L t).2.2.2.1 (pWt P (nxt bt n L t).2.2.2.1) = pMs bt n L D 2 13 0 (nxt bt n L (nxt bt n L (nxt bt n L t))) (nxt bt n L t).2.2.2.1 (pWk (pWt P (nxt bt n L t).2.2.2.1) 0) := by rw [pThing, if_pos hw]
                have hp := mMs_p bt n L D 2 13 0 (nxt bt n L (nxt bt n L (nxt bt n L t))) (nxt bt n L t).2.2.2.1 (pWk (pWt P (nxt bt n L t).2.2.2.1) 0)
                have e1 : (mTd bt n L D ee t tk P).1 = 1 ∧ (mTd bt n L D ee t tk P).2.1 = (mMs bt n L D 2 13 0 (nxt bt n L (nxt bt n L (nxt bt n L t))) (nxt bt n L t).2.2.2.1 (pWk (pWt P (nxt bt n L t).2.2.2.1) 0)).2.1 := by
                  rcases hp with he | ⟨_, _, h2, h3⟩
                  · rw [mTd_t h14 (by omega) hq2 hTh, ← he, if_neg (fun h => h hq), if_neg (by rw [h59]; decide)]
                    exact ⟨rfl, rfl⟩
                  · rw [mTd_t h14 (by omega) hq2 hTh, if_pos (by rw [h2]; decide)]
                    exact ⟨h2, h3⟩
                exact zs_zret dX13_readTold_254 rfl (Or.inl rfl) (Or.inr ⟨by rw [e1.1]; decide, rfl, mFa (upd gm 84 (nI (P.1 + 1))) 1 (mMs bt n L D 2 13 0 (nxt bt n L (nxt bt n L (nxt bt n L t))) (nxt bt n L t).2.2.2.1 (pWk (pWt P (nxt bt n L t).2.2.2.1) 0)).2.1, wm, pfm, mFr_fb (mFr_u hfm (by decide)), by rw [e1.1]; rfl, by rw [e1.2]; rfl, rfl⟩)
            · have hfm := mFr_t (fr3 : mFr [5, 6, 7, 8, 9, 13, 23, 84] g g3) hfrm (U := [5, 6, 7, 8, 9, 10, 11, 13, 23, 84]) (by decide) (by decide)
              refine zs_if_ne (tgt := 240) dX13_readTold_162 (by decide) (fun c_11 => (by first | exact absurd c_11 (by decide) | exact absurd (by decide) c_11 : False).elim) (fun c_11 => ?_)
              refine zs_iconst (v := nI 0) dX13_readTold_165 (by decide) ?_
              have hTh : pThing bt n L D (nxt bt n L (nxt bt n L t)) (nxt bt n L t).2.2.2.1 (pWt P (nxt bt n L t).2.2.2.1) = pMs bt n L D 2 13 0 (nxt bt n L (nxt bt n L (nxt bt n L t))) (nxt bt n L t).2.2.2.1 (pWk (pWt P (nxt bt n L t).2.2.2.1) 0) := by rw [pThing, if_pos hw]
              have hp := mMs_p bt n L D 2 13 0 (nxt bt n L (nxt bt n L (nxt bt n L t))) (nxt bt n L t).2.2.2.1 (pWk (pWt P (nxt bt n L t).2.2.2.1) 0)
              rcases hp with he | ⟨h0, _, _, _⟩
              · have er : (mTd bt n L D ee t tk P) = (mMs bt n L D 2 13 0 (nxt bt n L (nxt bt n L (nxt bt n L t))) (nxt bt n L t).2.2.2.1 (pWk (pWt P (nxt bt n L t).2.2.2.1) 0)) := by rw [mTd_t h14 (by omega) hq2 hTh, ← he, if_pos hq]
                exact zs_zret dX13_readTold_166 rfl (Or.inl rfl) (Or.inr ⟨by rw [er]; exact hq, rfl, gm, wm, pfm, hfm, by rw [er]; exact h10m, by rw [er]; exact h11m, rfl⟩)
              · exact absurd h0 hq
          · have hx15 : ¬ (nxt bt n L (nxt bt n L t)).2.2.2.2 = some 15 := of_decide_eq_false (bI_f c_6)
            refine zs_iinc (v := (nI 16)) (lv' := [(2, .int (nI 16)), (1, .int (nI (16 * P.1))), (0, .ref mo)]) dX13_readTold_100 rfl (nI_add _ 1) (Nat.le_of_ble_eq_true rfl) rfl ?_
            refine zs_goto (tgt := 86) dX13_readTold_103 (by decide) ?_
            refine zs_iload_n dX13_readTold_86 rfl ?_
            refine zs_bipush (v := nI 19) dX13_readTold_87 (by decide) ?_
            refine zs_icmp_gt (tgt := 106) dX13_readTold_89 (by decide) (fun c_12 => (by first | exact absurd c_12 (by decide) | exact absurd (by decide) c_12 : False).elim) (fun c_12 => ?_)
            refine zs_aload_n dX13_readTold_92 rfl rfl ?_
            refine zs_iload_n dX13_readTold_93 rfl ?_
            refine zs_callV (M := mX13_isWord) (As := [.int (nI 16)]) (st := []) (Kc := [(mo, .inr (11, fMo e g2 w2))]) (Kr := [((e 1), .inl (0, 740, .inl (nF bt))), ((e 14), .inl (0, 800, .inl nw)), ((e 18), .inl (2, 12, .inr (.inl nm))), ((e 16), .inl (0, 320, .inl (upd pf (16 * P.1) (nI (nxt bt n L t).2.2.2.1))))]) [0] [1, 2, 3, 4] 0 dX13_readTold_94 zl_RX13_264 kX13_isWord rfl rfl rfl rfl rfl (by decide) rfl rfl (show dd - 1 + 1 ≤ dd by omega) (Nat.zero_le _) (Nat.zero_le _) (Nat.le_of_ble_eq_true rfl) (s_mIsWord l (dd - 1) mo e g2 w2 n L (nxt bt n L (nxt bt n L t)) 16 (by omega) (by omega) hT2 (nxt_W (b := bt) (n := n) (L := L) (τ := (nxt bt n L t))) hO_2) (fun r K1 hr => ?_)
            obtain ⟨rfl, rfl⟩ := hr
            refine zs_K (K' := [(mo, .inr (11, fMo e g2 w2)), ((e 1), .inl (0, 740, .inl (nF bt))), ((e 14), .inl (0, 800, .inl nw)), ((e 18), .inl (2, 12, .inr (.inl nm))), ((e 16), .inl (0, 320, .inl (upd pf (16 * P.1) (nI (nxt bt n L t).2.2.2.1))))]) [4, 0, 1, 2, 3] rfl (by decide) ?_
            refine zs_if_ne (tgt := 106) dX13_readTold_97 (by decide) (fun c_13 => ?_) (fun c_13 => ?_)
            · have hw : (nxt bt n L (nxt bt n L t)).2.2.2.2 = some 16 := of_decide_eq_true (bI_t c_13)
              have hk22 : (nxt bt n L (nxt bt n L t)).1 = 2 := hO_2.2.2.2.2.2.2.2.2 _ hw
              refine zs_iload_n dX13_readTold_106 rfl ?_
              refine zs_bipush (v := nI 19) dX13_readTold_107 (by decide) ?_
              refine zs_icmp_le (tgt := 118) dX13_readTold_109 (by decide) (fun c_14 => ?_) (fun c_14 => (by first | exact absurd c_14 (by decide) | exact absurd (by decide) c_14 : False).elim)
              refine zs_aload_n dX13_readTold_118 rfl rfl ?_
              refine zs_get 0 dX13_readTold_119 zf_RX13_19 rfl (v := .ref (e 16)) rfl ?_
              refine zs_iload_n dX13_readTold_122 rfl ?_
              refine zs_iconst (v := nI 1) dX13_readTold_123 (by decide) ?_
              refine zs_iadd dX13_readTold_124 ?_
              refine zs_as (y := nI ((16 * P.1) + 1)) (nI_add _ _) ?_
              refine zs_iload_n dX13_readTold_125 rfl ?_
              refine zs_bipush (v := nI 15) dX13_readTold_126 (by decide) ?_
              refine zs_isub dX13_readTold_128 ?_
              refine zs_as (y := nI (16 - 15)) (nI_sub (by omega)) ?_
              refine zs_iast 4 dX13_readTold_129 rfl (vp_in_nI (by omega) (by omega)) ?_
              rw [nI_c (n := (16 * P.1) + 1) (by omega)]
              show zS _ _ _ _ _ _ [(mo, .inr (11, fMo e g2 w2)), ((e 1), .inl (0, 740, .inl (nF bt))), ((e 14), .inl (0, 800, .inl nw)), ((e 18), .inl (2, 12, .inr (.inl nm))), ((e 16), .inl (0, 320, .inl (upd (upd pf (16 * P.1) (nI (nxt bt n L t).2.2.2.1)) ((16 * P.1) + 1) (nI (16 - 15)))))]
              refine zs_aload_n dX13_readTold_130 rfl rfl ?_
              refine zs_callV (M := mX13_go) (As := []) (st := []) (Kc := [(mo, .inr (11, fMo e g2 w2)), ((e 1), .inl (0, 740, .inl (nF bt)))]) (Kr := [((e 14), .inl (0, 800, .inl nw)), ((e 18), .inl (2, 12, .inr (.inl nm))), ((e 16), .inl (0, 320, .inl (upd (upd pf (16 * P.1) (nI (nxt bt n L t).2.2.2.1)) ((16 * P.1) + 1) (nI (16 - 15)))))]) [0, 1] [2, 3, 4] 0 dX13_readTold_131 zl_RX13_226 kX13_go rfl rfl rfl rfl rfl (by decide) rfl rfl (show dd - 1 + 1 ≤ dd by omega) (Nat.zero_le _) (Nat.zero_le _) (Nat.le_of_ble_eq_true rfl) (s_mGoT l (dd - 1) mo e g2 w2 n L bt (nxt bt n L (nxt bt n L t)) (by omega) hn hL hbt h3_2 h4_2 hT2 (nxt_W (b := bt) (n := n) (L := L) (τ := (nxt bt n L t))) (show ¬ (nxt bt n L (nxt bt n L t)).1 = 0 by omega)) (fun r K1 hr => ?_)
              obtain ⟨rfl, g3, w3, hfr3, hT3, rfl⟩ := hr
              refine zs_K (K' := [(mo, .inr (11, fMo e g3 w3)), ((e 1), .inl (0, 740, .inl (nF bt))), ((e 14), .inl (0, 800, .inl nw)), ((e 18), .inl (2, 12, .inr (.inl nm))), ((e 16), .inl (0, 320, .inl (upd (upd pf (16 * P.1) (nI (nxt bt n L t).2.2.2.1)) ((16 * P.1) + 1) (nI (16 - 15)))))]) [3, 4, 0, 1, 2] rfl (by decide) ?_
              have fr3 : mFr [5, 6, 7, 8, 9, 13, 23, 84] g g3 := mFr_t (fr2 : mFr [5, 6, 7, 8, 9, 13, 23, 84] g g2) hfr3 (by decide) (by decide)
              have h3_3 : g3 3 = nI n := (hfr3 3 (by decide)).trans h3_2
              have h4_3 : g3 4 = nI L := (hfr3 4 (by decide)).trans h4_2
              have h23_3 : g3 23 = g2 23 := hfr3 23 (by decide)
              have hO_3 := nxt_OK (L := L) (τ := (nxt bt n L (nxt bt n L t))) hbt hn
              have h14_3 := hO_3.1
              have hkd_3 := mKd_4 (n := n) (L := L) hO_3.1
              have h84_3 : g3 84 = nI P.1 := (hfr3 84 (by decide)).trans h84_2
              refine zs_iload_n dX13_readTold_134 rfl ?_
              refine zs_bipush (v := nI 15) dX13_readTold_135 (by decide) ?_
              refine zs_icmp_eq (tgt := 146) dX13_readTold_137 (by decide) (fun c_15 => (by first | exact absurd c_15 (by decide) | exact absurd (by decide) c_15 : False).elim) (fun c_15 => ?_)
              refine zs_iload_n dX13_readTold_140 rfl ?_
              refine zs_bipush (v := nI 16) dX13_readTold_141 (by decide) ?_
              refine zs_icmp_ne (tgt := 167) dX13_readTold_143 (by decide) (fun c_16 => (by first | exact absurd c_16 (by decide) | exact absurd (by decide) c_16 : False).elim) (fun c_16 => ?_)
              refine zs_aload_n dX13_readTold_146 rfl rfl ?_
              refine zs_iload_n dX13_readTold_147 rfl ?_
              refine zs_iload_n dX13_readTold_148 rfl ?_
              refine zs_bipush (v := nI 15) dX13_readTold_149 (by decide) ?_
              refine zs_icmp_ne (tgt := 158) dX13_readTold_151 (by decide) (fun c_17 => ?_) (fun c_17 => (by first | exact absurd c_17 (by decide) | exact absurd (by decide) c_17 : False).elim)
              refine zs_iconst (v := nI 1) dX13_readTold_158 (by decide) ?_
              refine zs_callV (M := mX13_readMen) (As := [.int (nI (16 * P.1)), .int (nI 1)]) (st := []) (Kc := [(mo, .inr (11, fMo e g3 w3)), ((e 1), .inl (0, 740, .inl (nF bt))), ((e 14), .inl (0, 800, .inl nw)), ((e 18), .inl (2, 12, .inr (.inl nm))), ((e 16), .inl (0, 320, .inl (upd (upd pf (16 * P.1) (nI (nxt bt n L t).2.2.2.1)) ((16 * P.1) + 1) (nI (16 - 15)))))]) (Kr := []) [0, 1, 2, 3, 4] [] 0 dX13_readTold_159 zl_RX13_494 kX13_readMen rfl rfl rfl rfl rfl (by decide) rfl rfl (show dd - 1 + 1 ≤ dd by omega) (Nat.zero_le _) (Nat.zero_le _) (Nat.le_of_ble_eq_true rfl) (s_mPMen l (dd - 1) mo e n L bt (nxt bt n L t).2.2.2.1 D nw nm 1 g3 w3 (nxt bt n L (nxt bt n L (nxt bt n L t))) (pWk (pWt P (nxt bt n L t).2.2.2.1) 1) (upd (upd pf (16 * P.1) (nI (nxt bt n L t).2.2.2.1)) ((16 * P.1) + 1) (nI (16 - 15))) (by omega) hn hL hbt h3_3 h4_3 hD hy (by decide) hT3 (nxt_W (b := bt) (n := n) (L := L) (τ := (nxt bt n L (nxt bt n L t)))) hO_3 h20 (hP12_k hP12) (pRk_0 hP12 hR)) (fun r K1 hr => ?_)
              rcases hr with ⟨hq, rfl, gm, wm, pfm, hfrm, hTm, hWm, hOm, hRm, rfl⟩ | ⟨hq, rfl, gm, wm, pfm, hfrm, h10m, h11m, rfl⟩
              · have hfm := mFr_t (fr3 : mFr [5, 6, 7, 8, 9, 13, 23, 84] g g3) hfrm (U := [5, 6, 7, 8, 9, 13, 23, 84]) (by decide) (by decide)
                have h84m : gm 84 = nI P.1 := (hfrm 84 (by decide)).trans h84_3
                refine zs_if_ne (tgt := 240) dX13_readTold_162 (by decide) (fun c_18 => ?_) (fun c_18 => (by first | exact absurd c_18 (by decide) | exact absurd (by decide) c_18 : False).elim)
                refine zs_aload_n dX13_readTold_240 rfl rfl ?_
                refine zs_dup dX13_readTold_241 rfl ?_
                refine zs_get 0 dX13_readTold_242 zf_RX13_491 rfl (v := .int (gm 84)) rfl ?_
                refine zs_as (y := nI P.1) h84m ?_
                refine zs_iconst (v := nI 1) dX13_readTold_245 (by decide) ?_
                refine zs_iadd dX13_readTold_246 ?_
                refine zs_as (y := nI (P.1 + 1)) (nI_add _ _) ?_
                refine zs_put 0 dX13_readTold_247 zf_RX13_491 rfl (Nat.le_of_ble_eq_true rfl) (zPv_i _) ?_
                show zS _ _ _ _ _ _ [(mo, .inr (11, fMo e (upd gm 84 (nI (P.1 + 1))) wm)), ((e 1), .inl (0, 740, .inl (nF bt))), ((e 14), .inl (0, 800, .inl nw)), ((e 18), .inl (2, 12, .inr (.inl nm))), ((e 16), .inl (0, 320, .inl pfm))]
                refine zs_aload_n dX13_readTold_250 rfl rfl ?_
                refine zs_callV (M := mX13_readEnd) (As := []) (st := []) (Kc := [(mo, .inr (11, fMo e (upd gm 84 (nI (P.1 + 1))) wm)), ((e 1), .inl (0, 740, .inl (nF bt)))]) (Kr := [((e 14), .inl (0, 800, .inl nw)), ((e 18), .inl (2, 12, .inr (.inl nm))), ((e 16), .inl (0, 320, .inl pfm))]) [0, 1] [2, 3, 4] 0 dX13_readTold_251 zl_RX13_279 kX13_readEnd rfl rfl rfl rfl rfl (by decide) rfl rfl (show dd - 1 + 1 ≤ dd by omega) (Nat.zero_le _) (Nat.zero_le _) (Nat.le_of_ble_eq_true rfl) (s_mReadEnd l (dd - 1) mo e (upd gm 84 (nI (P.1 + 1))) wm n L bt (mMs bt n L D 1 13 0 (nxt bt n L (nxt bt n L (nxt bt n L t))) (nxt bt n L t).2.2.2.1 (pWk (pWt P (nxt bt n L t).2.2.2.1) 1)).2.1 (by omega) hn hL hbt ((hfrm 3 (by decide)).trans h3_3) ((hfrm 4 (by decide)).trans h4_3) (mTk_f hTm rfl rfl rfl rfl rfl) hWm hOm) (fun r K1 hr => ?_)
                rcases hr with ⟨h59, rfl, ge, we, hfre, hTe, rfl⟩ | ⟨h59, rfl, rfl⟩
                · refine zs_K (K' := [(mo, .inr (11, fMo e ge we)), ((e 1), .inl (0, 740, .inl (nF bt))), ((e 14), .inl (0, 800, .inl nw)), ((e 18), .inl (2, 12, .inr (.inl nm))), ((e 16), .inl (0, 320, .inl pfm))]) [3, 4, 0, 1, 2] rfl (by decide) ?_
                  have hTh : pThing bt n L D (nxt bt n L (nxt bt n L t)) (nxt bt n L t).2.2.2.1 (pWt P (nxt bt n L t).2.2.2.1) = pMs bt n L D 1 13 0 (nxt bt n L (nxt bt n L (nxt bt n L t))) (nxt bt n L t).2.2.2.1 (pWk (pWt P (nxt bt n L t).2.2.2.1) 1) := by rw [pThing, if_neg hx15, if_pos hw]
                  have hp := mMs_p bt n L D 1 13 0 (nxt bt n L (nxt bt n L (nxt bt n L t))) (nxt bt n L t).2.2.2.1 (pWk (pWt P (nxt bt n L t).2.2.2.1) 1)
                  rcases hp with he | ⟨_, h1, _, _⟩
                  · have er : (mTd bt n L D ee t tk P) = (0, nxt bt n L (mMs bt n L D 1 13 0 (nxt bt n L (nxt bt n L (nxt bt n L t))) (nxt bt n L t).2.2.2.1 (pWk (pWt P (nxt bt n L t).2.2.2.1) 1)).2.1, (mMs bt n L D 1 13 0 (nxt bt n L (nxt bt n L (nxt bt n L t))) (nxt bt n L t).2.2.2.1 (pWk (pWt P (nxt bt n L t).2.2.2.1) 1)).2.2.1, (P.1 + 1, (mMs bt n L D 1 13 0 (nxt bt n L (nxt bt n L (nxt bt n L t))) (nxt bt n L t).2.2.2.1 (pWk (pWt P (nxt bt n L t).2.2.2.1) 1)).2.2.2.2)) := by rw [mTd_t h14 (by omega) hq2 hTh, ← he, if_neg (fun h => h hq), if_pos h59]
                    exact zs_zret dX13_readTold_254 rfl (Or.inr rfl) (Or.inl ⟨by rw [er], rfl, ge, we, pfm, mFr_t (mFr_u hfm (by decide) : mFr [5, 6, 7, 8, 9, 13, 23, 84] g (upd gm 84 (nI (P.1 + 1)))) hfre (by decide) (by decide), by rw [er]; exact hTe, by rw [er]; exact nxt_W, by rw [er]; exact nxt_OK hbt hn, (hfre 84 (by decide)).trans rfl, by rw [er], by rw [er]; exact fun i hi => hRm i (by rw [mMs_n]; exact hi), rfl⟩)
                  · rw [h59] at h1; exact absurd h1 (by decide)
                · refine zs_K (K' := [(mo, .inr (11, fMo e (mFa (upd gm 84 (nI (P.1 + 1))) 1 ((mMs bt n L D 1 13 0 (nxt bt n L (nxt bt n L (nxt bt n L t))) (nxt bt n L t).2.2.2.1 (pWk (pWt P (nxt bt n L t).2.2.2.1) 1)).2.1)) wm)), ((e 1), .inl (0, 740, .inl (nF bt))), ((e 14), .inl (0, 800, .inl nw)), ((e 18), .inl (2, 12, .inr (.inl nm))), ((e 16), .inl (0, 320, .inl pfm))]) [3, 4, 0, 1, 2] rfl (by decide) ?_
                  have hTh : pThing bt n L D (nxt bt n L (nxt bt n L t)) (nxt bt n L t).2.2.2.1 (pWt P (nxt bt n L t).2.2.2.1) = pMs bt n L D 1 13 0 (nxt bt n L (nxt bt n L (nxt bt n L t))) (nxt bt n L t).2.2.2.1 (pWk (pWt P (nxt bt n L t).2.2.2.1) 1) := by rw [pThing, if_neg hx15, if_pos hw]
                  have hp := mMs_p bt n L D 1 13 0 (nxt bt n L (nxt bt n L (nxt bt n L t))) (nxt bt n L t).2.2.2.1 (pWk (pWt P (nxt bt n L t).2.2.2.1) 1)
                  have e1 : (mTd bt n L D ee t tk P).1 = 1 ∧ (mTd bt n L D ee t tk P).2.1 = (mMs bt n L D 1 13 0 (nxt bt n L (nxt bt n L (nxt bt n L t))) (nxt bt n L t).2.2.2.1 (pWk (pWt P (nxt bt n L t).2.2.2.1) 1)).2.1 := by
                    rcases hp with he | ⟨_, _, h2, h3⟩
                    · rw [mTd_t h14 (by omega) hq2 hTh, ← he, if_neg (fun h => h hq), if_neg (by rw [h59]; decide)]
                      exact ⟨rfl, rfl⟩
                    · rw [mTd_t h14 (by omega) hq2 hTh, if_pos (by rw [h2]; decide)]
                      exact ⟨h2, h3⟩
                  exact zs_zret dX13_readTold_254 rfl (Or.inl rfl) (Or.inr ⟨by rw [e1.1]; decide, rfl, mFa (upd gm 84 (nI (P.1 + 1))) 1 (mMs bt n L D 1 13 0 (nxt bt n L (nxt bt n L (nxt bt n L t))) (nxt bt n L t).2.2.2.1 (pWk (pWt P (nxt bt n L t).2.2.2.1) 1)).2.1, wm, pfm, mFr_fb (mFr_u hfm (by decide)), by rw [e1.1]; rfl, by rw [e1.2]; rfl, rfl⟩)
              · have hfm := mFr_t (fr3 : mFr [5, 6, 7, 8, 9, 13, 23, 84] g g3) hfrm (U := [5, 6, 7, 8, 9, 10, 11, 13, 23, 84]) (by decide) (by decide)
                refine zs_if_ne (tgt := 240) dX13_readTold_162 (by decide) (fun c_19 => (by first | exact absurd c_19 (by decide) | exact absurd (by decide) c_19 : False).elim) (fun c_19 => ?_)
                refine zs_iconst (v := nI 0) dX13_readTold_165 (by decide) ?_
                have hTh : pThing bt n L D (nxt bt n L (nxt bt n L t)) (nxt bt n L t).2.2.2.1 (pWt P (nxt bt n L t).2.2.2.1) = pMs bt n L D 1 13 0 (nxt bt n L (nxt bt n L (nxt bt n L t))) (nxt bt n L t).2.2.2.1 (pWk (pWt P (nxt bt n L t).2.2.2.1) 1) := by rw [pThing, if_neg hx15, if_pos hw]
                have hp := mMs_p bt n L D 1 13 0 (nxt bt n L (nxt bt n L (nxt bt n L t))) (nxt bt n L t).2.2.2.1 (pWk (pWt P (nxt bt n L t).2.2.2.1) 1)
                rcases hp with he | ⟨h0, _, _, _⟩
                · have er : (mTd bt n L D ee t tk P) = (mMs bt n L D 1 13 0 (nxt bt n L (nxt bt n L (nxt bt n L t))) (nxt bt n L t).2.2.2.1 (pWk (pWt P (nxt bt n L t).2.2.2.1) 1)) := by rw [mTd_t h14 (by omega) hq2 hTh, ← he, if_pos hq]
                  exact zs_zret dX13_readTold_166 rfl (Or.inl rfl) (Or.inr ⟨by rw [er]; exact hq, rfl, gm, wm, pfm, hfm, by rw [er]; exact h10m, by rw [er]; exact h11m, rfl⟩)
                · exact absurd h0 hq
            · have hx16 : ¬ (nxt bt n L (nxt bt n L t)).2.2.2.2 = some 16 := of_decide_eq_false (bI_f c_13)
              refine zs_iinc (v := (nI 17)) (lv' := [(2, .int (nI 17)), (1, .int (nI (16 * P.1))), (0, .ref mo)]) dX13_readTold_100 rfl (nI_add _ 1) (Nat.le_of_ble_eq_true rfl) rfl ?_
              refine zs_goto (tgt := 86) dX13_readTold_103 (by decide) ?_
              refine zs_iload_n dX13_readTold_86 rfl ?_
              refine zs_bipush (v := nI 19) dX13_readTold_87 (by decide) ?_
              refine zs_icmp_gt (tgt := 106) dX13_readTold_89 (by decide) (fun c_20 => (by first | exact absurd c_20 (by decide) | exact absurd (by decide) c_20 : False).elim) (fun c_20 => ?_)
              refine zs_aload_n dX13_readTold_92 rfl rfl ?_
              refine zs_iload_n dX13_readTold_93 rfl ?_
              refine zs_callV (M := mX13_isWord) (As := [.int (nI 17)]) (st := []) (Kc := [(mo, .inr (11, fMo e g2 w2))]) (Kr := [((e 1), .inl (0, 740, .inl (nF bt))), ((e 14), .inl (0, 800, .inl nw)), ((e 18), .inl (2, 12, .inr (.inl nm))), ((e 16), .inl (0, 320, .inl (upd pf (16 * P.1) (nI (nxt bt n L t).2.2.2.1))))]) [0] [1, 2, 3, 4] 0 dX13_readTold_94 zl_RX13_264 kX13_isWord rfl rfl rfl rfl rfl (by decide) rfl rfl (show dd - 1 + 1 ≤ dd by omega) (Nat.zero_le _) (Nat.zero_le _) (Nat.le_of_ble_eq_true rfl) (s_mIsWord l (dd - 1) mo e g2 w2 n L (nxt bt n L (nxt bt n L t)) 17 (by omega) (by omega) hT2 (nxt_W (b := bt) (n := n) (L := L) (τ := (nxt bt n L t))) hO_2) (fun r K1 hr => ?_)
              obtain ⟨rfl, rfl⟩ := hr
              refine zs_K (K' := [(mo, .inr (11, fMo e g2 w2)), ((e 1), .inl (0, 740, .inl (nF bt))), ((e 14), .inl (0, 800, .inl nw)), ((e 18), .inl (2, 12, .inr (.inl nm))), ((e 16), .inl (0, 320, .inl (upd pf (16 * P.1) (nI (nxt bt n L t).2.2.2.1))))]) [4, 0, 1, 2, 3] rfl (by decide) ?_
              refine zs_if_ne (tgt := 106) dX13_readTold_97 (by decide) (fun c_21 => ?_) (fun c_21 => ?_)
              · have hw : (nxt bt n L (nxt bt n L t)).2.2.2.2 = some 17 := of_decide_eq_true (bI_t c_21)
                have hk22 : (nxt bt n L (nxt bt n L t)).1 = 2 := hO_2.2.2.2.2.2.2.2.2 _ hw
                refine zs_iload_n dX13_readTold_106 rfl ?_
                refine zs_bipush (v := nI 19) dX13_readTold_107 (by decide) ?_
                refine zs_icmp_le (tgt := 118) dX13_readTold_109 (by decide) (fun c_22 => ?_) (fun c_22 => (by first | exact absurd c_22 (by decide) | exact absurd (by decide) c_22 : False).elim)
                refine zs_aload_n dX13_readTold_118 rfl rfl ?_
                refine zs_get 0 dX13_readTold_119 zf_RX13_19 rfl (v := .ref (e 16)) rfl ?_
                refine zs_iload_n dX13_readTold_122 rfl ?_
                refine zs_iconst (v := nI 1) dX13_readTold_123 (by decide) ?_
                refine zs_iadd dX13_readTold_124 ?_
                refine zs_as (y := nI ((16 * P.1) + 1)) (nI_add _ _) ?_
                refine zs_iload_n dX13_readTold_125 rfl ?_
                refine zs_bipush (v := nI 15) dX13_readTold_126 (by decide) ?_
                refine zs_isub dX13_readTold_128 ?_
                refine zs_as (y := nI (17 - 15)) (nI_sub (by omega)) ?_
                refine zs_iast 4 dX13_readTold_129 rfl (vp_in_nI (by omega) (by omega)) ?_
                rw [nI_c (n := (16 * P.1) + 1) (by omega)]
                show zS _ _ _ _ _ _ [(mo, .inr (11, fMo e g2 w2)), ((e 1), .inl (0, 740, .inl (nF bt))), ((e 14), .inl (0, 800, .inl nw)), ((e 18), .inl (2, 12, .inr (.inl nm))), ((e 16), .inl (0, 320, .inl (upd (upd pf (16 * P.1) (nI (nxt bt n L t).2.2.2.1)) ((16 * P.1) + 1) (nI (17 - 15)))))]
                refine zs_aload_n dX13_readTold_130 rfl rfl ?_
                refine zs_callV (M := mX13_go) (As := []) (st := []) (Kc := [(mo, .inr (11, fMo e g2 w2)), ((e 1), .inl (0, 740, .inl (nF bt)))]) (Kr := [((e 14), .inl (0, 800, .inl nw)), ((e 18), .inl (2, 12, .inr (.inl nm))), ((e 16), .inl (0, 320, .inl (upd (upd pf (16 * P.1) (nI (nxt bt n L t).2.2.2.1)) ((16 * P.1) + 1) (nI (17 - 15)))))]) [0, 1] [2, 3, 4] 0 dX13_readTold_131 zl_RX13_226 kX13_go rfl rfl rfl rfl rfl (by decide) rfl rfl (show dd - 1 + 1 ≤ dd by omega) (Nat.zero_le _) (Nat.zero_le _) (Nat.le_of_ble_eq_true rfl) (s_mGoT l (dd - 1) mo e g2 w2 n L bt (nxt bt n L (nxt bt n L t)) (by omega) hn hL hbt h3_2 h4_2 hT2 (nxt_W (b := bt) (n := n) (L := L) (τ := (nxt bt n L t))) (show ¬ (nxt bt n L (nxt bt n L t)).1 = 0 by omega)) (fun r K1 hr => ?_)
                obtain ⟨rfl, g3, w3, hfr3, hT3, rfl⟩ := hr
                refine zs_K (K' := [(mo, .inr (11, fMo e g3 w3)), ((e 1), .inl (0, 740, .inl (nF bt))), ((e 14), .inl (0, 800, .inl nw)), ((e 18), .inl (2, 12, .inr (.inl nm))), ((e 16), .inl (0, 320, .inl (upd (upd pf (16 * P.1) (nI (nxt bt n L t).2.2.2.1)) ((16 * P.1) + 1) (nI (17 - 15)))))]) [3, 4, 0, 1, 2] rfl (by decide) ?_
                have fr3 : mFr [5, 6, 7, 8, 9, 13, 23, 84] g g3 := mFr_t (fr2 : mFr [5, 6, 7, 8, 9, 13, 23, 84] g g2) hfr3 (by decide) (by decide)
                have h3_3 : g3 3 = nI n := (hfr3 3 (by decide)).trans h3_2
                have h4_3 : g3 4 = nI L := (hfr3 4 (by decide)).trans h4_2
                have h23_3 : g3 23 = g2 23 := hfr3 23 (by decide)
                have hO_3 := nxt_OK (L := L) (τ := (nxt bt n L (nxt bt n L t))) hbt hn
                have h14_3 := hO_3.1
                have hkd_3 := mKd_4 (n := n) (L := L) hO_3.1
                have h84_3 : g3 84 = nI P.1 := (hfr3 84 (by decide)).trans h84_2
                refine zs_iload_n dX13_readTold_134 rfl ?_
                refine zs_bipush (v := nI 15) dX13_readTold_135 (by decide) ?_
                refine zs_icmp_eq (tgt := 146) dX13_readTold_137 (by decide) (fun c_23 => (by first | exact absurd c_23 (by decide) | exact absurd (by decide) c_23 : False).elim) (fun c_23 => ?_)
                refine zs_iload_n dX13_readTold_140 rfl ?_
                refine zs_bipush (v := nI 16) dX13_readTold_141 (by decide) ?_
                refine zs_icmp_ne (tgt := 167) dX13_readTold_143 (by decide) (fun c_24 => ?_) (fun c_24 => (by first | exact absurd c_24 (by decide) | exact absurd (by decide) c_24 : False).elim)
                refine zs_iload_n dX13_readTold_167 rfl ?_
                refine zs_bipush (v := nI 17) dX13_readTold_168 (by decide) ?_
                refine zs_icmp_eq (tgt := 240) dX13_readTold_170 (by decide) (fun c_25 => ?_) (fun c_25 => (by first | exact absurd c_25 (by decide) | exact absurd (by decide) c_25 : False).elim)
                refine zs_aload_n dX13_readTold_240 rfl rfl ?_
                refine zs_dup dX13_readTold_241 rfl ?_
                refine zs_get 0 dX13_readTold_242 zf_RX13_491 rfl (v := .int (g3 84)) rfl ?_
                refine zs_as (y := nI P.1) h84_3 ?_
                refine zs_iconst (v := nI 1) dX13_readTold_245 (by decide) ?_
                refine zs_iadd dX13_readTold_246 ?_
                refine zs_as (y := nI (P.1 + 1)) (nI_add _ _) ?_
                refine zs_put 0 dX13_readTold_247 zf_RX13_491 rfl (Nat.le_of_ble_eq_true rfl) (zPv_i _) ?_
                show zS _ _ _ _ _ _ [(mo, .inr (11, fMo e (upd g3 84 (nI (P.1 + 1))) w3)), ((e 1), .inl (0, 740, .inl (nF bt))), ((e 14), .inl (0, 800, .inl nw)), ((e 18), .inl (2, 12, .inr (.inl nm))), ((e 16), .inl (0, 320, .inl (upd (upd pf (16 * P.1) (nI (nxt bt n L t).2.2.2.1)) ((16 * P.1) + 1) (nI (17 - 15)))))]
                refine zs_aload_n dX13_readTold_250 rfl rfl ?_
                refine zs_callV (M := mX13_readEnd) (As := []) (st := []) (Kc := [(mo, .inr (11, fMo e (upd g3 84 (nI (P.1 + 1))) w3)), ((e 1), .inl (0, 740, .inl (nF bt)))]) (Kr := [((e 14), .inl (0, 800, .inl nw)), ((e 18), .inl (2, 12, .inr (.inl nm))), ((e 16), .inl (0, 320, .inl (upd (upd pf (16 * P.1) (nI (nxt bt n L t).2.2.2.1)) ((16 * P.1) + 1) (nI (17 - 15)))))]) [0, 1] [2, 3, 4] 0 dX13_readTold_251 zl_RX13_279 kX13_readEnd rfl rfl rfl rfl rfl (by decide) rfl rfl (show dd - 1 + 1 ≤ dd by omega) (Nat.zero_le _) (Nat.zero_le _) (Nat.le_of_ble_eq_true rfl) (s_mReadEnd l (dd - 1) mo e (upd g3 84 (nI (P.1 + 1))) w3 n L bt (nxt bt n L (nxt bt n L (nxt bt n L t))) (by omega) hn hL hbt h3_3 h4_3 (mTk_f hT3 rfl rfl rfl rfl rfl) (nxt_W (b := bt) (n := n) (L := L) (τ := (nxt bt n L (nxt bt n L t)))) hO_3) (fun r K1 hr => ?_)
                rcases hr with ⟨h59, rfl, ge, we, hfre, hTe, rfl⟩ | ⟨h59, rfl, rfl⟩
                · refine zs_K (K' := [(mo, .inr (11, fMo e ge we)), ((e 1), .inl (0, 740, .inl (nF bt))), ((e 14), .inl (0, 800, .inl nw)), ((e 18), .inl (2, 12, .inr (.inl nm))), ((e 16), .inl (0, 320, .inl (upd (upd pf (16 * P.1) (nI (nxt bt n L t).2.2.2.1)) ((16 * P.1) + 1) (nI (17 - 15)))))]) [3, 4, 0, 1, 2] rfl (by decide) ?_
                  have hTh : pThing bt n L D (nxt bt n L (nxt bt n L t)) (nxt bt n L t).2.2.2.1 (pWt P (nxt bt n L t).2.2.2.1) = (0, (nxt bt n L (nxt bt n L (nxt bt n L t))), (nxt bt n L t).2.2.2.1, (pWk (pWt P (nxt bt n L t).2.2.2.1) 2)) := by rw [pThing, if_neg hx15, if_neg hx16, if_neg (show ¬ (nxt bt n L (nxt bt n L t)).2.2.2.2 = some 18 from fun h => by rw [hw] at h; exact absurd h (by decide)), if_neg (show ¬ (nxt bt n L (nxt bt n L t)).2.2.2.2 = some 19 from fun h => by rw [hw] at h; exact absurd h (by decide)), if_pos hw]
                  have er : (mTd bt n L D ee t tk P) = (0, nxt bt n L (nxt bt n L (nxt bt n L (nxt bt n L t))), (nxt bt n L t).2.2.2.1, (P.1 + 1, (pWk (pWt P (nxt bt n L t).2.2.2.1) 2).2)) := by rw [mTd_t h14 (by omega) hq2 hTh, if_neg (fun h => h rfl), if_pos h59]
                  exact zs_zret dX13_readTold_254 rfl (Or.inr rfl) (Or.inl ⟨by rw [er], rfl, ge, we, (upd (upd pf (16 * P.1) (nI (nxt bt n L t).2.2.2.1)) ((16 * P.1) + 1) (nI (17 - 15))), mFr_t (mFr_u fr3 (by decide) : mFr [5, 6, 7, 8, 9, 13, 23, 84] g (upd g3 84 (nI (P.1 + 1)))) hfre (by decide) (by decide), by rw [er]; exact hTe, by rw [er]; exact nxt_W, by rw [er]; exact nxt_OK hbt hn, (hfre 84 (by decide)).trans rfl, by rw [er], by rw [er]; exact pRk_2 (Q := (pWk (pWt P (nxt bt n L t).2.2.2.1) 2)) (by show un P.2.2.1 P.1 2 P.1 = 2; rw [un_s]) (pRk_0 hP12 hR), rfl⟩)
                · refine zs_K (K' := [(mo, .inr (11, fMo e (mFa (upd g3 84 (nI (P.1 + 1))) 1 (nxt bt n L (nxt bt n L (nxt bt n L t)))) w3)), ((e 1), .inl (0, 740, .inl (nF bt))), ((e 14), .inl (0, 800, .inl nw)), ((e 18), .inl (2, 12, .inr (.inl nm))), ((e 16), .inl (0, 320, .inl (upd (upd pf (16 * P.1) (nI (nxt bt n L t).2.2.2.1)) ((16 * P.1) + 1) (nI (17 - 15)))))]) [3, 4, 0, 1, 2] rfl (by decide) ?_
                  have hTh : pThing bt n L D (nxt bt n L (nxt bt n L t)) (nxt bt n L t).2.2.2.1 (pWt P (nxt bt n L t).2.2.2.1) = (0, (nxt bt n L (nxt bt n L (nxt bt n L t))), (nxt bt n L t).2.2.2.1, (pWk (pWt P (nxt bt n L t).2.2.2.1) 2)) := by rw [pThing, if_neg hx15, if_neg hx16, if_neg (show ¬ (nxt bt n L (nxt bt n L t)).2.2.2.2 = some 18 from fun h => by rw [hw] at h; exact absurd h (by decide)), if_neg (show ¬ (nxt bt n L (nxt bt n L t)).2.2.2.2 = some 19 from fun h => by rw [hw] at h; exact absurd h (by decide)), if_pos hw]
                  have er : (mTd bt n L D ee t tk P) = (1, (nxt bt n L (nxt bt n L (nxt bt n L t))), (nxt bt n L t).2.2.2.1, (pWk (pWt P (nxt bt n L t).2.2.2.1) 2)) := by rw [mTd_t h14 (by omega) hq2 hTh, if_neg (fun h => h rfl), if_neg (by rw [h59]; decide)]
                  exact zs_zret dX13_readTold_254 rfl (Or.inl rfl) (Or.inr ⟨by rw [er]; exact (show ¬ (1 : Nat) = 0 by decide), rfl, mFa (upd g3 84 (nI (P.1 + 1))) 1 (nxt bt n L (nxt bt n L (nxt bt n L t))), w3, (upd (upd pf (16 * P.1) (nI (nxt bt n L t).2.2.2.1)) ((16 * P.1) + 1) (nI (17 - 15))), mFr_fb (mFr_u fr3 (by decide)), by rw [er]; rfl, by rw [er]; rfl, rfl⟩)
              · have hx17 : ¬ (nxt bt n L (nxt bt n L t)).2.2.2.2 = some 17 := of_decide_eq_false (bI_f c_21)
                refine zs_iinc (v := (nI 18)) (lv' := [(2, .int (nI 18)), (1, .int (nI (16 * P.1))), (0, .ref mo)]) dX13_readTold_100 rfl (nI_add _ 1) (Nat.le_of_ble_eq_true rfl) rfl ?_
                refine zs_goto (tgt := 86) dX13_readTold_103 (by decide) ?_
                refine zs_iload_n dX13_readTold_86 rfl ?_
                refine zs_bipush (v := nI 19) dX13_readTold_87 (by decide) ?_
                refine zs_icmp_gt (tgt := 106) dX13_readTold_89 (by decide) (fun c_26 => (by first | exact absurd c_26 (by decide) | exact absurd (by decide) c_26 : False).elim) (fun c_26 => ?_)
                refine zs_aload_n dX13_readTold_92 rfl rfl ?_
                refine zs_iload_n dX13_readTold_93 rfl ?_
                refine zs_callV (M := mX13_isWord) (As := [.int (nI 18)]) (st := []) (Kc := [(mo, .inr (11, fMo e g2 w2))]) (Kr := [((e 1), .inl (0, 740, .inl (nF bt))), ((e 14), .inl (0, 800, .inl nw)), ((e 18), .inl (2, 12, .inr (.inl nm))), ((e 16), .inl (0, 320, .inl (upd pf (16 * P.1) (nI (nxt bt n L t).2.2.2.1))))]) [0] [1, 2, 3, 4] 0 dX13_readTold_94 zl_RX13_264 kX13_isWord rfl rfl rfl rfl rfl (by decide) rfl rfl (show dd - 1 + 1 ≤ dd by omega) (Nat.zero_le _) (Nat.zero_le _) (Nat.le_of_ble_eq_true rfl) (s_mIsWord l (dd - 1) mo e g2 w2 n L (nxt bt n L (nxt bt n L t)) 18 (by omega) (by omega) hT2 (nxt_W (b := bt) (n := n) (L := L) (τ := (nxt bt n L t))) hO_2) (fun r K1 hr => ?_)
                obtain ⟨rfl, rfl⟩ := hr
                refine zs_K (K' := [(mo, .inr (11, fMo e g2 w2)), ((e 1), .inl (0, 740, .inl (nF bt))), ((e 14), .inl (0, 800, .inl nw)), ((e 18), .inl (2, 12, .inr (.inl nm))), ((e 16), .inl (0, 320, .inl (upd pf (16 * P.1) (nI (nxt bt n L t).2.2.2.1))))]) [4, 0, 1, 2, 3] rfl (by decide) ?_
                refine zs_if_ne (tgt := 106) dX13_readTold_97 (by decide) (fun c_27 => ?_) (fun c_27 => ?_)
                · have hw : (nxt bt n L (nxt bt n L t)).2.2.2.2 = some 18 := of_decide_eq_true (bI_t c_27)
                  have hk22 : (nxt bt n L (nxt bt n L t)).1 = 2 := hO_2.2.2.2.2.2.2.2.2 _ hw
                  refine zs_iload_n dX13_readTold_106 rfl ?_
                  refine zs_bipush (v := nI 19) dX13_readTold_107 (by decide) ?_
                  refine zs_icmp_le (tgt := 118) dX13_readTold_109 (by decide) (fun c_28 => ?_) (fun c_28 => (by first | exact absurd c_28 (by decide) | exact absurd (by decide) c_28 : False).elim)
                  refine zs_aload_n dX13_readTold_118 rfl rfl ?_
                  refine zs_get 0 dX13_readTold_119 zf_RX13_19 rfl (v := .ref (e 16)) rfl ?_
                  refine zs_iload_n dX13_readTold_122 rfl ?_
                  refine zs_iconst (v := nI 1) dX13_readTold_123 (by decide) ?_
                  refine zs_iadd dX13_readTold_124 ?_
                  refine zs_as (y := nI ((16 * P.1) + 1)) (nI_add _ _) ?_
                  refine zs_iload_n dX13_readTold_125 rfl ?_
                  refine zs_bipush (v := nI 15) dX13_readTold_126 (by decide) ?_
                  refine zs_isub dX13_readTold_128 ?_
                  refine zs_as (y := nI (18 - 15)) (nI_sub (by omega)) ?_
                  refine zs_iast 4 dX13_readTold_129 rfl (vp_in_nI (by omega) (by omega)) ?_
                  rw [nI_c (n := (16 * P.1) + 1) (by omega)]
                  show zS _ _ _ _ _ _ [(mo, .inr (11, fMo e g2 w2)), ((e 1), .inl (0, 740, .inl (nF bt))), ((e 14), .inl (0, 800, .inl nw)), ((e 18), .inl (2, 12, .inr (.inl nm))), ((e 16), .inl (0, 320, .inl (upd (upd pf (16 * P.1) (nI (nxt bt n L t).2.2.2.1)) ((16 * P.1) + 1) (nI (18 - 15)))))]
                  refine zs_aload_n dX13_readTold_130 rfl rfl ?_
                  refine zs_callV (M := mX13_go) (As := []) (st := []) (Kc := [(mo, .inr (11, fMo e g2 w2)), ((e 1), .inl (0, 740, .inl (nF bt)))]) (Kr := [((e 14), .inl (0, 800, .inl nw)), ((e 18), .inl (2, 12, .inr (.inl nm))), ((e 16), .inl (0, 320, .inl (upd (upd pf (16 * P.1) (nI (nxt bt n L t).2.2.2.1)) ((16 * P.1) + 1) (nI (18 - 15)))))]) [0, 1] [2, 3, 4] 0 dX13_readTold_131 zl_RX13_226 kX13_go rfl rfl rfl rfl rfl (by decide) rfl rfl (show dd - 1 + 1 ≤ dd by omega) (Nat.zero_le _) (Nat.zero_le _) (Nat.le_of_ble_eq_true rfl) (s_mGoT l (dd - 1) mo e g2 w2 n L bt (nxt bt n L (nxt bt n L t)) (by omega) hn hL hbt h3_2 h4_2 hT2 (nxt_W (b := bt) (n := n) (L := L) (τ := (nxt bt n L t))) (show ¬ (nxt bt n L (nxt bt n L t)).1 = 0 by omega)) (fun r K1 hr => ?_)
                  obtain ⟨rfl, g3, w3, hfr3, hT3, rfl⟩ := hr
                  refine zs_K (K' := [(mo, .inr (11, fMo e g3 w3)), ((e 1), .inl (0, 740, .inl (nF bt))), ((e 14), .inl (0, 800, .inl nw)), ((e 18), .inl (2, 12, .inr (.inl nm))), ((e 16), .inl (0, 320, .inl (upd (upd pf (16 * P.1) (nI (nxt bt n L t).2.2.2.1)) ((16 * P.1) + 1) (nI (18 - 15)))))]) [3, 4, 0, 1, 2] rfl (by decide) ?_
                  have fr3 : mFr [5, 6, 7, 8, 9, 13, 23, 84] g g3 := mFr_t (fr2 : mFr [5, 6, 7, 8, 9, 13, 23, 84] g g2) hfr3 (by decide) (by decide)
                  have h3_3 : g3 3 = nI n := (hfr3 3 (by decide)).trans h3_2
                  have h4_3 : g3 4 = nI L := (hfr3 4 (by decide)).trans h4_2
                  have h23_3 : g3 23 = g2 23 := hfr3 23 (by decide)
                  have hO_3 := nxt_OK (L := L) (τ := (nxt bt n L (nxt bt n L t))) hbt hn
                  have h14_3 := hO_3.1
                  have hkd_3 := mKd_4 (n := n) (L := L) hO_3.1
                  have h84_3 : g3 84 = nI P.1 := (hfr3 84 (by decide)).trans h84_2
                  refine zs_iload_n dX13_readTold_134 rfl ?_
                  refine zs_bipush (v := nI 15) dX13_readTold_135 (by decide) ?_
                  refine zs_icmp_eq (tgt := 146) dX13_readTold_137 (by decide) (fun c_29 => (by first | exact absurd c_29 (by decide) | exact absurd (by decide) c_29 : False).elim) (fun c_29 => ?_)
                  refine zs_iload_n dX13_readTold_140 rfl ?_
                  refine zs_bipush (v := nI 16) dX13_readTold_141 (by decide) ?_
                  refine zs_icmp_ne (tgt := 167) dX13_readTold_143 (by decide) (fun c_30 => ?_) (fun c_30 => (by first | exact absurd c_30 (by decide) | exact absurd (by decide) c_30 : False).elim)
                  refine zs_iload_n dX13_readTold_167 rfl ?_
                  refine zs_bipush (v := nI 17) dX13_readTold_168 (by decide) ?_
                  refine zs_icmp_eq (tgt := 240) dX13_readTold_170 (by decide) (fun c_31 => (by first | exact absurd c_31 (by decide) | exact absurd (by decide) c_31 : False).elim) (fun c_31 => ?_)
                  refine zs_aload_n dX13_readTold_173 rfl rfl ?_
                  refine zs_get 0 dX13_readTold_174 zf_RX13_170 rfl (v := .int (g3 7)) rfl ?_
                  refine zs_as (y := nI (mKd n L (nxt bt n L (nxt bt n L (nxt bt n L t))))) (mTk_7 hT3) ?_
                  refine zs_iconst (v := nI 3) dX13_readTold_177 (by decide) ?_
                  refine zs_icmp_eq (tgt := 187) dX13_readTold_178 (by decide) (fun c_32 => ?_) (fun c_32 => ?_)
                  · have c_32 : (mKd n L (nxt bt n L (nxt bt n L (nxt bt n L t)))) = 3 := by have hc := c_32; rw [nI_eq' (by omega) (by omega)] at hc; exact hc
                    have hk3 : (nxt bt n L (nxt bt n L (nxt bt n L t))).1 = 3 := (mKd_n (by decide)).mp c_32
                    have hv3 := hO_3.2.2.2.2.1 hk3
                    refine zs_iload_n dX13_readTold_187 rfl ?_
                    refine zs_bipush (v := nI 18) dX13_readTold_188 (by decide) ?_
                    refine zs_icmp_ne (tgt := 207) dX13_readTold_190 (by decide) (fun c_33 => (by first | exact absurd c_33 (by decide) | exact absurd (by decide) c_33 : False).elim) (fun c_33 => ?_)
                    refine zs_aload_n dX13_readTold_193 rfl rfl ?_
                    refine zs_aload_n dX13_readTold_194 rfl rfl ?_
                    refine zs_get 0 dX13_readTold_195 zf_RX13_187 rfl (v := .int (g3 8)) rfl ?_
                    refine zs_as (y := nI (nxt bt n L (nxt bt n L (nxt bt n L t))).2.2.2.1) (hT3.2.2.1 hk3) ?_
                    refine zs_callV (M := mX13_isAim) (As := [.int (nI (nxt bt n L (nxt bt n L (nxt bt n L t))).2.2.2.1)]) (st := []) (Kc := [(mo, .inr (11, fMo e g3 w3)), ((e 14), .inl (0, 800, .inl nw))]) (Kr := [((e 1), .inl (0, 740, .inl (nF bt))), ((e 18), .inl (2, 12, .inr (.inl nm))), ((e 16), .inl (0, 320, .inl (upd (upd pf (16 * P.1) (nI (nxt bt n L t).2.2.2.1)) ((16 * P.1) + 1) (nI (18 - 15)))))]) [0, 2] [1, 3, 4] 0 dX13_readTold_198 zl_RX13_448 kX13_isAim rfl rfl rfl rfl rfl (by decide) rfl rfl (show dd - 1 + 1 ≤ dd by omega) (Nat.zero_le _) (Nat.zero_le _) (Nat.le_of_ble_eq_true rfl) (s_mIsAim l (dd - 1) mo e g3 w3 nw D (nI (nxt bt n L (nxt bt n L (nxt bt n L t))).2.2.2.1) (by omega) hy.1 hD) (fun r K1 hr => ?_)
                    obtain ⟨rfl, rfl⟩ := hr
                    refine zs_K (K' := [(mo, .inr (11, fMo e g3 w3)), ((e 1), .inl (0, 740, .inl (nF bt))), ((e 14), .inl (0, 800, .inl nw)), ((e 18), .inl (2, 12, .inr (.inl nm))), ((e 16), .inl (0, 320, .inl (upd (upd pf (16 * P.1) (nI (nxt bt n L t).2.2.2.1)) ((16 * P.1) + 1) (nI (18 - 15)))))]) [3, 0, 4, 1, 2] rfl (by decide) ?_
                    refine zs_if_ne (tgt := 224) dX13_readTold_201 (by decide) (fun c_34 => ?_) (fun c_34 => ?_)
                    · have hai := bI_t c_34
                      refine zs_aload_n dX13_readTold_224 rfl rfl ?_
                      refine zs_get 0 dX13_readTold_225 zf_RX13_19 rfl (v := .ref (e 16)) rfl ?_
                      refine zs_iload_n dX13_readTold_228 rfl ?_
                      refine zs_iconst (v := nI 2) dX13_readTold_229 (by decide) ?_
                      refine zs_iadd dX13_readTold_230 ?_
                      refine zs_as (y := nI ((16 * P.1) + 2)) (nI_add _ _) ?_
                      refine zs_aload_n dX13_readTold_231 rfl rfl ?_
                      refine zs_get 0 dX13_readTold_232 zf_RX13_187 rfl (v := .int (g3 8)) rfl ?_
                      refine zs_as (y := nI (nxt bt n L (nxt bt n L (nxt bt n L t))).2.2.2.1) (hT3.2.2.1 hk3) ?_
                      refine zs_iast 4 dX13_readTold_235 rfl (vp_in_nI (by omega) (by omega)) ?_
                      rw [nI_c (n := (16 * P.1) + 2) (by omega)]
                      show zS _ _ _ _ _ _ [(mo, .inr (11, fMo e g3 w3)), ((e 1), .inl (0, 740, .inl (nF bt))), ((e 14), .inl (0, 800, .inl nw)), ((e 18), .inl (2, 12, .inr (.inl nm))), ((e 16), .inl (0, 320, .inl (upd (upd (upd pf (16 * P.1) (nI (nxt bt n L t).2.2.2.1)) ((16 * P.1) + 1) (nI (18 - 15))) ((16 * P.1) + 2) (nI (nxt bt n L (nxt bt n L (nxt bt n L t))).2.2.2.1))))]
                      refine zs_aload_n dX13_readTold_236 rfl rfl ?_
                      refine zs_callV (M := mX13_go) (As := []) (st := []) (Kc := [(mo, .inr (11, fMo e g3 w3)), ((e 1), .inl (0, 740, .inl (nF bt)))]) (Kr := [((e 14), .inl (0, 800, .inl nw)), ((e 18), .inl (2, 12, .inr (.inl nm))), ((e 16), .inl (0, 320, .inl (upd (upd (upd pf (16 * P.1) (nI (nxt bt n L t).2.2.2.1)) ((16 * P.1) + 1) (nI (18 - 15))) ((16 * P.1) + 2) (nI (nxt bt n L (nxt bt n L (nxt bt n L t))).2.2.2.1))))]) [0, 1] [2, 3, 4] 0 dX13_readTold_237 zl_RX13_226 kX13_go rfl rfl rfl rfl rfl (by decide) rfl rfl (show dd - 1 + 1 ≤ dd by omega) (Nat.zero_le _) (Nat.zero_le _) (Nat.le_of_ble_eq_true rfl) (s_mGoT l (dd - 1) mo e g3 w3 n L bt (nxt bt n L (nxt bt n L (nxt bt n L t))) (by omega) hn hL hbt h3_3 h4_3 hT3 (nxt_W (b := bt) (n := n) (L := L) (τ := (nxt bt n L (nxt bt n L t)))) (show ¬ (nxt bt n L (nxt bt n L (nxt bt n L t))).1 = 0 by omega)) (fun r K1 hr => ?_)
                      obtain ⟨rfl, g4, w4, hfr4, hT4, rfl⟩ := hr
                      refine zs_K (K' := [(mo, .inr (11, fMo e g4 w4)), ((e 1), .inl (0, 740, .inl (nF bt))), ((e 14), .inl (0, 800, .inl nw)), ((e 18), .inl (2, 12, .inr (.inl nm))), ((e 16), .inl (0, 320, .inl (upd (upd (upd pf (16 * P.1) (nI (nxt bt n L t).2.2.2.1)) ((16 * P.1) + 1) (nI (18 - 15))) ((16 * P.1) + 2) (nI (nxt bt n L (nxt bt n L (nxt bt n L t))).2.2.2.1))))]) [3, 4, 0, 1, 2] rfl (by decide) ?_
                      have fr4 : mFr [5, 6, 7, 8, 9, 13, 23, 84] g g4 := mFr_t (fr3 : mFr [5, 6, 7, 8, 9, 13, 23, 84] g g3) hfr4 (by decide) (by decide)
                      have h3_4 : g4 3 = nI n := (hfr4 3 (by decide)).trans h3_3
                      have h4_4 : g4 4 = nI L := (hfr4 4 (by decide)).trans h4_3
                      have h23_4 : g4 23 = g3 23 := hfr4 23 (by decide)
                      have hO_4 := nxt_OK (L := L) (τ := (nxt bt n L (nxt bt n L (nxt bt n L t)))) hbt hn
                      have h14_4 := hO_4.1
                      have hkd_4 := mKd_4 (n := n) (L := L) hO_4.1
                      have h84_4 : g4 84 = nI P.1 := (hfr4 84 (by decide)).trans h84_3
                      refine zs_aload_n dX13_readTold_240 rfl rfl ?_
                      refine zs_dup dX13_readTold_241 rfl ?_
                      refine zs_get 0 dX13_readTold_242 zf_RX13_491 rfl (v := .int (g4 84)) rfl ?_
                      refine zs_as (y := nI P.1) h84_4 ?_
                      refine zs_iconst (v := nI 1) dX13_readTold_245 (by decide) ?_
                      refine zs_iadd dX13_readTold_246 ?_
                      refine zs_as (y := nI (P.1 + 1)) (nI_add _ _) ?_
                      refine zs_put 0 dX13_readTold_247 zf_RX13_491 rfl (Nat.le_of_ble_eq_true rfl) (zPv_i _) ?_
                      show zS _ _ _ _ _ _ [(mo, .inr (11, fMo e (upd g4 84 (nI (P.1 + 1))) w4)), ((e 1), .inl (0, 740, .inl (nF bt))), ((e 14), .inl (0, 800, .inl nw)), ((e 18), .inl (2, 12, .inr (.inl nm))), ((e 16), .inl (0, 320, .inl (upd (upd (upd pf (16 * P.1) (nI (nxt bt n L t).2.2.2.1)) ((16 * P.1) + 1) (nI (18 - 15))) ((16 * P.1) + 2) (nI (nxt bt n L (nxt bt n L (nxt bt n L t))).2.2.2.1))))]
                      refine zs_aload_n dX13_readTold_250 rfl rfl ?_
                      refine zs_callV (M := mX13_readEnd) (As := []) (st := []) (Kc := [(mo, .inr (11, fMo e (upd g4 84 (nI (P.1 + 1))) w4)), ((e 1), .inl (0, 740, .inl (nF bt)))]) (Kr := [((e 14), .inl (0, 800, .inl nw)), ((e 18), .inl (2, 12, .inr (.inl nm))), ((e 16), .inl (0, 320, .inl (upd (upd (upd pf (16 * P.1) (nI (nxt bt n L t).2.2.2.1)) ((16 * P.1) + 1) (nI (18 - 15))) ((16 * P.1) + 2) (nI (nxt bt n L (nxt bt n L (nxt bt n L t))).2.2.2.1))))]) [0, 1] [2, 3, 4] 0 dX13_readTold_251 zl_RX13_279 kX13_readEnd rfl rfl rfl rfl rfl (by decide) rfl rfl (show dd - 1 + 1 ≤ dd by omega) (Nat.zero_le _) (Nat.zero_le _) (Nat.le_of_ble_eq_true rfl) (s_mReadEnd l (dd - 1) mo e (upd g4 84 (nI (P.1 + 1))) w4 n L bt (nxt bt n L (nxt bt n L (nxt bt n L (nxt bt n L t)))) (by omega) hn hL hbt h3_4 h4_4 (mTk_f hT4 rfl rfl rfl rfl rfl) (nxt_W (b := bt) (n := n) (L := L) (τ := (nxt bt n L (nxt bt n L (nxt bt n L t))))) hO_4) (fun r K1 hr => ?_)
                      rcases hr with ⟨h59, rfl, ge, we, hfre, hTe, rfl⟩ | ⟨h59, rfl, rfl⟩
                      · refine zs_K (K' := [(mo, .inr (11, fMo e ge we)), ((e 1), .inl (0, 740, .inl (nF bt))), ((e 14), .inl (0, 800, .inl nw)), ((e 18), .inl (2, 12, .inr (.inl nm))), ((e 16), .inl (0, 320, .inl (upd (upd (upd pf (16 * P.1) (nI (nxt bt n L t).2.2.2.1)) ((16 * P.1) + 1) (nI (18 - 15))) ((16 * P.1) + 2) (nI (nxt bt n L (nxt bt n L (nxt bt n L t))).2.2.2.1))))]) [3, 4, 0, 1, 2] rfl (by decide) ?_
                        have ht1 : tNu (nxt bt n L (nxt bt n L (nxt bt n L t))) 0 2147483647 = 0 := by rw [tNu, if_pos hk3, if_neg (by omega), if_neg (by omega)]
                        have hTh : pThing bt n L D (nxt bt n L (nxt bt n L t)) (nxt bt n L t).2.2.2.1 (pWt P (nxt bt n L t).2.2.2.1) = (0, (nxt bt n L (nxt bt n L (nxt bt n L (nxt bt n L t)))), (nxt bt n L (nxt bt n L (nxt bt n L t))).2.2.2.1, pWn (pWk (pWt P (nxt bt n L t).2.2.2.1) 3) (nxt bt n L (nxt bt n L (nxt bt n L t))).2.2.2.1) := by rw [pThing, if_neg hx15, if_neg hx16, if_pos hw, pAmP, if_neg (fun h => by rw [hai] at h; exact absurd h.2 (by decide)), if_pos ht1]
                        have er : (mTd bt n L D ee t tk P) = (0, nxt bt n L (nxt bt n L (nxt bt n L (nxt bt n L (nxt bt n L t)))), (nxt bt n L (nxt bt n L (nxt bt n L t))).2.2.2.1, (P.1 + 1, (pWn (pWk (pWt P (nxt bt n L t).2.2.2.1) 3) (nxt bt n L (nxt bt n L (nxt bt n L t))).2.2.2.1).2)) := by rw [mTd_t h14 (by omega) hq2 hTh, if_neg (fun h => h rfl), if_pos h59]
                        exact zs_zret dX13_readTold_254 rfl (Or.inr rfl) (Or.inl ⟨by rw [er], rfl, ge, we, (upd (upd (upd pf (16 * P.1) (nI (nxt bt n L t).2.2.2.1)) ((16 * P.1) + 1) (nI (18 - 15))) ((16 * P.1) + 2) (nI (nxt bt n L (nxt bt n L (nxt bt n L t))).2.2.2.1)), mFr_t (mFr_u fr4 (by decide) : mFr [5, 6, 7, 8, 9, 13, 23, 84] g (upd g4 84 (nI (P.1 + 1)))) hfre (by decide) (by decide), by rw [er]; exact hTe, by rw [er]; exact nxt_W, by rw [er]; exact nxt_OK hbt hn, (hfre 84 (by decide)).trans rfl, by rw [er], by rw [er]; exact pRk_3 (Q := (pWk (pWt P (nxt bt n L t).2.2.2.1) 3)) (hP12_k hP12) (by show 2 < un P.2.2.1 P.1 3 P.1; rw [un_s]; decide) (pRk_0 hP12 hR), rfl⟩)
                      · refine zs_K (K' := [(mo, .inr (11, fMo e (mFa (upd g4 84 (nI (P.1 + 1))) 1 (nxt bt n L (nxt bt n L (nxt bt n L (nxt bt n L t))))) w4)), ((e 1), .inl (0, 740, .inl (nF bt))), ((e 14), .inl (0, 800, .inl nw)), ((e 18), .inl (2, 12, .inr (.inl nm))), ((e 16), .inl (0, 320, .inl (upd (upd (upd pf (16 * P.1) (nI (nxt bt n L t).2.2.2.1)) ((16 * P.1) + 1) (nI (18 - 15))) ((16 * P.1) + 2) (nI (nxt bt n L (nxt bt n L (nxt bt n L t))).2.2.2.1))))]) [3, 4, 0, 1, 2] rfl (by decide) ?_
                        have ht1 : tNu (nxt bt n L (nxt bt n L (nxt bt n L t))) 0 2147483647 = 0 := by rw [tNu, if_pos hk3, if_neg (by omega), if_neg (by omega)]
                        have hTh : pThing bt n L D (nxt bt n L (nxt bt n L t)) (nxt bt n L t).2.2.2.1 (pWt P (nxt bt n L t).2.2.2.1) = (0, (nxt bt n L (nxt bt n L (nxt bt n L (nxt bt n L t)))), (nxt bt n L (nxt bt n L (nxt bt n L t))).2.2.2.1, pWn (pWk (pWt P (nxt bt n L t).2.2.2.1) 3) (nxt bt n L (nxt bt n L (nxt bt n L t))).2.2.2.1) := by rw [pThing, if_neg hx15, if_neg hx16, if_pos hw, pAmP, if_neg (fun h => by rw [hai] at h; exact absurd h.2 (by decide)), if_pos ht1]
                        have er : (mTd bt n L D ee t tk P) = (1, (nxt bt n L (nxt bt n L (nxt bt n L (nxt bt n L t)))), (nxt bt n L (nxt bt n L (nxt bt n L t))).2.2.2.1, (pWn (pWk (pWt P (nxt bt n L t).2.2.2.1) 3) (nxt bt n L (nxt bt n L (nxt bt n L t))).2.2.2.1)) := by rw [mTd_t h14 (by omega) hq2 hTh, if_neg (fun h => h rfl), if_neg (by rw [h59]; decide)]
                        exact zs_zret dX13_readTold_254 rfl (Or.inl rfl) (Or.inr ⟨by rw [er]; exact (show ¬ (1 : Nat) = 0 by decide), rfl, mFa (upd g4 84 (nI (P.1 + 1))) 1 (nxt bt n L (nxt bt n L (nxt bt n L (nxt bt n L t)))), w4, (upd (upd (upd pf (16 * P.1) (nI (nxt bt n L t).2.2.2.1)) ((16 * P.1) + 1) (nI (18 - 15))) ((16 * P.1) + 2) (nI (nxt bt n L (nxt bt n L (nxt bt n L t))).2.2.2.1)), mFr_fb (mFr_u fr4 (by decide)), by rw [er]; rfl, by rw [er]; rfl, rfl⟩)
                    · have hai := bI_f c_34
                      refine zs_goto (tgt := 218) dX13_readTold_204 (by decide) ?_
                      refine zs_aload_n dX13_readTold_218 rfl rfl ?_
                      refine zs_iconst (v := nI 2) dX13_readTold_219 (by decide) ?_
                      refine zs_callV (M := mX13_bad) (As := [.int (nI 2)]) (st := []) (Kc := [(mo, .inr (11, fMo e g3 w3))]) (Kr := [((e 1), .inl (0, 740, .inl (nF bt))), ((e 14), .inl (0, 800, .inl nw)), ((e 18), .inl (2, 12, .inr (.inl nm))), ((e 16), .inl (0, 320, .inl (upd (upd pf (16 * P.1) (nI (nxt bt n L t).2.2.2.1)) ((16 * P.1) + 1) (nI (18 - 15)))))]) [0] [1, 2, 3, 4] 0 dX13_readTold_220 zl_RX13_216 kX13_bad rfl rfl rfl rfl rfl (by decide) rfl rfl (show dd - 1 + 1 ≤ dd by omega) (Nat.zero_le _) (Nat.zero_le _) (Nat.le_of_ble_eq_true rfl) (s_mBad l (dd - 1) mo e g3 w3 n L (nxt bt n L (nxt bt n L (nxt bt n L t))) 2 hT3 (nxt_W (b := bt) (n := n) (L := L) (τ := (nxt bt n L (nxt bt n L t)))) hO_3) (fun r K1 hr => ?_)
                      rw [mBad_e (by first | (intro; rfl) | (intro h; unfold mKd at h; split at h <;> omega))] at hr
                      obtain ⟨rfl, rfl⟩ := hr
                      refine zs_K (K' := [(mo, .inr (11, fMo e (mFa g3 2 (nxt bt n L (nxt bt n L (nxt bt n L t)))) w3)), ((e 1), .inl (0, 740, .inl (nF bt))), ((e 14), .inl (0, 800, .inl nw)), ((e 18), .inl (2, 12, .inr (.inl nm))), ((e 16), .inl (0, 320, .inl (upd (upd pf (16 * P.1) (nI (nxt bt n L t).2.2.2.1)) ((16 * P.1) + 1) (nI (18 - 15)))))]) [4, 0, 1, 2, 3] rfl (by decide) ?_
                      have hTh : pThing bt n L D (nxt bt n L (nxt bt n L t)) (nxt bt n L t).2.2.2.1 (pWt P (nxt bt n L t).2.2.2.1) = (2, (nxt bt n L (nxt bt n L (nxt bt n L t))), (nxt bt n L t).2.2.2.1, (pWk (pWt P (nxt bt n L t).2.2.2.1) 3)) := by rw [pThing, if_neg hx15, if_neg hx16, if_pos hw, pAmP, if_pos ⟨hk3, hai⟩]
                      have e1 : (mTd bt n L D ee t tk P).1 = 2 ∧ (mTd bt n L D ee t tk P).2.1 = (nxt bt n L (nxt bt n L (nxt bt n L t))) := by rw [mTd_t h14 (by omega) hq2 hTh, if_pos (show ¬ (2 : Nat) = 0 by decide)]; exact ⟨rfl, rfl⟩
                      exact zs_zret dX13_readTold_223 rfl (Or.inl rfl) (Or.inr ⟨by rw [e1.1]; exact (show ¬ 2 = 0 by decide), rfl, mFa g3 2 (nxt bt n L (nxt bt n L (nxt bt n L t))), w3, (upd (upd pf (16 * P.1) (nI (nxt bt n L t).2.2.2.1)) ((16 * P.1) + 1) (nI (18 - 15))), mFr_fb fr3, by rw [e1.1]; rfl, by rw [e1.2]; rfl, rfl⟩)
                  · have c_32 : ¬ ((mKd n L (nxt bt n L (nxt bt n L (nxt bt n L t)))) = 3) := by have hc := c_32; rw [nI_eq' (by omega) (by omega)] at hc; exact hc
                    have hk3 : ¬ (nxt bt n L (nxt bt n L (nxt bt n L t))).1 = 3 := fun h => c_32 ((mKd_n (by decide)).mpr h)
                    refine zs_aload_n dX13_readTold_181 rfl rfl ?_
                    refine zs_iconst (v := nI 1) dX13_readTold_182 (by decide) ?_
                    refine zs_callV (M := mX13_bad) (As := [.int (nI 1)]) (st := []) (Kc := [(mo, .inr (11, fMo e g3 w3))]) (Kr := [((e 1), .inl (0, 740, .inl (nF bt))), ((e 14), .inl (0, 800, .inl nw)), ((e 18), .inl (2, 12, .inr (.inl nm))), ((e 16), .inl (0, 320, .inl (upd (upd pf (16 * P.1) (nI (nxt bt n L t).2.2.2.1)) ((16 * P.1) + 1) (nI (18 - 15)))))]) [0] [1, 2, 3, 4] 0 dX13_readTold_183 zl_RX13_216 kX13_bad rfl rfl rfl rfl rfl (by decide) rfl rfl (show dd - 1 + 1 ≤ dd by omega) (Nat.zero_le _) (Nat.zero_le _) (Nat.le_of_ble_eq_true rfl) (s_mBad l (dd - 1) mo e g3 w3 n L (nxt bt n L (nxt bt n L (nxt bt n L t))) 1 hT3 (nxt_W (b := bt) (n := n) (L := L) (τ := (nxt bt n L (nxt bt n L t)))) hO_3) (fun r K1 hr => ?_)
                    rw [mBad_e (by first | (intro; rfl) | (intro h; unfold mKd at h; split at h <;> omega))] at hr
                    obtain ⟨rfl, rfl⟩ := hr
                    refine zs_K (K' := [(mo, .inr (11, fMo e (mFa g3 1 (nxt bt n L (nxt bt n L (nxt bt n L t)))) w3)), ((e 1), .inl (0, 740, .inl (nF bt))), ((e 14), .inl (0, 800, .inl nw)), ((e 18), .inl (2, 12, .inr (.inl nm))), ((e 16), .inl (0, 320, .inl (upd (upd pf (16 * P.1) (nI (nxt bt n L t).2.2.2.1)) ((16 * P.1) + 1) (nI (18 - 15)))))]) [4, 0, 1, 2, 3] rfl (by decide) ?_
                    have ht1 : tNu (nxt bt n L (nxt bt n L (nxt bt n L t))) 0 2147483647 = 1 := by rw [tNu, if_neg hk3]
                    have hTh : pThing bt n L D (nxt bt n L (nxt bt n L t)) (nxt bt n L t).2.2.2.1 (pWt P (nxt bt n L t).2.2.2.1) = (1, (nxt bt n L (nxt bt n L (nxt bt n L t))), (nxt bt n L t).2.2.2.1, pWn (pWk (pWt P (nxt bt n L t).2.2.2.1) 3) (nxt bt n L t).2.2.2.1) := by rw [pThing, if_neg hx15, if_neg hx16, if_pos hw, pAmP, if_neg (fun h => hk3 h.1), if_neg (by rw [ht1]; decide), ht1]
                    have e1 : (mTd bt n L D ee t tk P).1 = 1 ∧ (mTd bt n L D ee t tk P).2.1 = (nxt bt n L (nxt bt n L (nxt bt n L t))) := by rw [mTd_t h14 (by omega) hq2 hTh, if_pos (show ¬ (1 : Nat) = 0 by decide)]; exact ⟨rfl, rfl⟩
                    exact zs_zret dX13_readTold_186 rfl (Or.inl rfl) (Or.inr ⟨by rw [e1.1]; exact (show ¬ 1 = 0 by decide), rfl, mFa g3 1 (nxt bt n L (nxt bt n L (nxt bt n L t))), w3, (upd (upd pf (16 * P.1) (nI (nxt bt n L t).2.2.2.1)) ((16 * P.1) + 1) (nI (18 - 15))), mFr_fb fr3, by rw [e1.1]; rfl, by rw [e1.2]; rfl, rfl⟩)
                · have hx18 : ¬ (nxt bt n L (nxt bt n L t)).2.2.2.2 = some 18 := of_decide_eq_false (bI_f c_27)
                  refine zs_iinc (v := (nI 19)) (lv' := [(2, .int (nI 19)), (1, .int (nI (16 * P.1))), (0, .ref mo)]) dX13_readTold_100 rfl (nI_add _ 1) (Nat.le_of_ble_eq_true rfl) rfl ?_
                  refine zs_goto (tgt := 86) dX13_readTold_103 (by decide) ?_
                  refine zs_iload_n dX13_readTold_86 rfl ?_
                  refine zs_bipush (v := nI 19) dX13_readTold_87 (by decide) ?_
                  refine zs_icmp_gt (tgt := 106) dX13_readTold_89 (by decide) (fun c_35 => (by first | exact absurd c_35 (by decide) | exact absurd (by decide) c_35 : False).elim) (fun c_35 => ?_)
                  refine zs_aload_n dX13_readTold_92 rfl rfl ?_
                  refine zs_iload_n dX13_readTold_93 rfl ?_
                  refine zs_callV (M := mX13_isWord) (As := [.int (nI 19)]) (st := []) (Kc := [(mo, .inr (11, fMo e g2 w2))]) (Kr := [((e 1), .inl (0, 740, .inl (nF bt))), ((e 14), .inl (0, 800, .inl nw)), ((e 18), .inl (2, 12, .inr (.inl nm))), ((e 16), .inl (0, 320, .inl (upd pf (16 * P.1) (nI (nxt bt n L t).2.2.2.1))))]) [0] [1, 2, 3, 4] 0 dX13_readTold_94 zl_RX13_264 kX13_isWord rfl rfl rfl rfl rfl (by decide) rfl rfl (show dd - 1 + 1 ≤ dd by omega) (Nat.zero_le _) (Nat.zero_le _) (Nat.le_of_ble_eq_true rfl) (s_mIsWord l (dd - 1) mo e g2 w2 n L (nxt bt n L (nxt bt n L t)) 19 (by omega) (by omega) hT2 (nxt_W (b := bt) (n := n) (L := L) (τ := (nxt bt n L t))) hO_2) (fun r K1 hr => ?_)
                  obtain ⟨rfl, rfl⟩ := hr
                  refine zs_K (K' := [(mo, .inr (11, fMo e g2 w2)), ((e 1), .inl (0, 740, .inl (nF bt))), ((e 14), .inl (0, 800, .inl nw)), ((e 18), .inl (2, 12, .inr (.inl nm))), ((e 16), .inl (0, 320, .inl (upd pf (16 * P.1) (nI (nxt bt n L t).2.2.2.1))))]) [4, 0, 1, 2, 3] rfl (by decide) ?_
                  refine zs_if_ne (tgt := 106) dX13_readTold_97 (by decide) (fun c_36 => ?_) (fun c_36 => ?_)
                  · have hw : (nxt bt n L (nxt bt n L t)).2.2.2.2 = some 19 := of_decide_eq_true (bI_t c_36)
                    have hk22 : (nxt bt n L (nxt bt n L t)).1 = 2 := hO_2.2.2.2.2.2.2.2.2 _ hw
                    refine zs_iload_n dX13_readTold_106 rfl ?_
                    refine zs_bipush (v := nI 19) dX13_readTold_107 (by decide) ?_
                    refine zs_icmp_le (tgt := 118) dX13_readTold_109 (by decide) (fun c_37 => ?_) (fun c_37 => (by first | exact absurd c_37 (by decide) | exact absurd (by decide) c_37 : False).elim)
                    refine zs_aload_n dX13_readTold_118 rfl rfl ?_
                    refine zs_get 0 dX13_readTold_119 zf_RX13_19 rfl (v := .ref (e 16)) rfl ?_
                    refine zs_iload_n dX13_readTold_122 rfl ?_
                    refine zs_iconst (v := nI 1) dX13_readTold_123 (by decide) ?_
                    refine zs_iadd dX13_readTold_124 ?_
                    refine zs_as (y := nI ((16 * P.1) + 1)) (nI_add _ _) ?_
                    refine zs_iload_n dX13_readTold_125 rfl ?_
                    refine zs_bipush (v := nI 15) dX13_readTold_126 (by decide) ?_
                    refine zs_isub dX13_readTold_128 ?_
                    refine zs_as (y := nI (19 - 15)) (nI_sub (by omega)) ?_
                    refine zs_iast 4 dX13_readTold_129 rfl (vp_in_nI (by omega) (by omega)) ?_
                    rw [nI_c (n := (16 * P.1) + 1) (by omega)]
                    show zS _ _ _ _ _ _ [(mo, .inr (11, fMo e g2 w2)), ((e 1), .inl (0, 740, .inl (nF bt))), ((e 14), .inl (0, 800, .inl nw)), ((e 18), .inl (2, 12, .inr (.inl nm))), ((e 16), .inl (0, 320, .inl (upd (upd pf (16 * P.1) (nI (nxt bt n L t).2.2.2.1)) ((16 * P.1) + 1) (nI (19 - 15)))))]
                    refine zs_aload_n dX13_readTold_130 rfl rfl ?_
                    refine zs_callV (M := mX13_go) (As := []) (st := []) (Kc := [(mo, .inr (11, fMo e g2 w2)), ((e 1), .inl (0, 740, .inl (nF bt)))]) (Kr := [((e 14), .inl (0, 800, .inl nw)), ((e 18), .inl (2, 12, .inr (.inl nm))), ((e 16), .inl (0, 320, .inl (upd (upd pf (16 * P.1) (nI (nxt bt n L t).2.2.2.1)) ((16 * P.1) + 1) (nI (19 - 15)))))]) [0, 1] [2, 3, 4] 0 dX13_readTold_131 zl_RX13_226 kX13_go rfl rfl rfl rfl rfl (by decide) rfl rfl (show dd - 1 + 1 ≤ dd by omega) (Nat.zero_le _) (Nat.zero_le _) (Nat.le_of_ble_eq_true rfl) (s_mGoT l (dd - 1) mo e g2 w2 n L bt (nxt bt n L (nxt bt n L t)) (by omega) hn hL hbt h3_2 h4_2 hT2 (nxt_W (b := bt) (n := n) (L := L) (τ := (nxt bt n L t))) (show ¬ (nxt bt n L (nxt bt n L t)).1 = 0 by omega)) (fun r K1 hr => ?_)
                    obtain ⟨rfl, g3, w3, hfr3, hT3, rfl⟩ := hr
                    refine zs_K (K' := [(mo, .inr (11, fMo e g3 w3)), ((e 1), .inl (0, 740, .inl (nF bt))), ((e 14), .inl (0, 800, .inl nw)), ((e 18), .inl (2, 12, .inr (.inl nm))), ((e 16), .inl (0, 320, .inl (upd (upd pf (16 * P.1) (nI (nxt bt n L t).2.2.2.1)) ((16 * P.1) + 1) (nI (19 - 15)))))]) [3, 4, 0, 1, 2] rfl (by decide) ?_
                    have fr3 : mFr [5, 6, 7, 8, 9, 13, 23, 84] g g3 := mFr_t (fr2 : mFr [5, 6, 7, 8, 9, 13, 23, 84] g g2) hfr3 (by decide) (by decide)
                    have h3_3 : g3 3 = nI n := (hfr3 3 (by decide)).trans h3_2
                    have h4_3 : g3 4 = nI L := (hfr3 4 (by decide)).trans h4_2
                    have h23_3 : g3 23 = g2 23 := hfr3 23 (by decide)
                    have hO_3 := nxt_OK (L := L) (τ := (nxt bt n L (nxt bt n L t))) hbt hn
                    have h14_3 := hO_3.1
                    have hkd_3 := mKd_4 (n := n) (L := L) hO_3.1
                    have h84_3 : g3 84 = nI P.1 := (hfr3 84 (by decide)).trans h84_2
                    refine zs_iload_n dX13_readTold_134 rfl ?_
                    refine zs_bipush (v := nI 15) dX13_readTold_135 (by decide) ?_
                    refine zs_icmp_eq (tgt := 146) dX13_readTold_137 (by decide) (fun c_38 => (by first | exact absurd c_38 (by decide) | exact absurd (by decide) c_38 : False).elim) (fun c_38 => ?_)
                    refine zs_iload_n dX13_readTold_140 rfl ?_
                    refine zs_bipush (v := nI 16) dX13_readTold_141 (by decide) ?_
                    refine zs_icmp_ne (tgt := 167) dX13_readTold_143 (by decide) (fun c_39 => ?_) (fun c_39 => (by first | exact absurd c_39 (by decide) | exact absurd (by decide) c_39 : False).elim)
                    refine zs_iload_n dX13_readTold_167 rfl ?_
                    refine zs_bipush (v := nI 17) dX13_readTold_168 (by decide) ?_
                    refine zs_icmp_eq (tgt := 240) dX13_readTold_170 (by decide) (fun c_40 => (by first | exact absurd c_40 (by decide) | exact absurd (by decide) c_40 : False).elim) (fun c_40 => ?_)
                    refine zs_aload_n dX13_readTold_173 rfl rfl ?_
                    refine zs_get 0 dX13_readTold_174 zf_RX13_170 rfl (v := .int (g3 7)) rfl ?_
                    refine zs_as (y := nI (mKd n L (nxt bt n L (nxt bt n L (nxt bt n L t))))) (mTk_7 hT3) ?_
                    refine zs_iconst (v := nI 3) dX13_readTold_177 (by decide) ?_
                    refine zs_icmp_eq (tgt := 187) dX13_readTold_178 (by decide) (fun c_41 => ?_) (fun c_41 => ?_)
                    · have c_41 : (mKd n L (nxt bt n L (nxt bt n L (nxt bt n L t)))) = 3 := by have hc := c_41; rw [nI_eq' (by omega) (by omega)] at hc; exact hc
                      have hk3 : (nxt bt n L (nxt bt n L (nxt bt n L t))).1 = 3 := (mKd_n (by decide)).mp c_41
                      have hv3 := hO_3.2.2.2.2.1 hk3
                      refine zs_iload_n dX13_readTold_187 rfl ?_
                      refine zs_bipush (v := nI 18) dX13_readTold_188 (by decide) ?_
                      refine zs_icmp_ne (tgt := 207) dX13_readTold_190 (by decide) (fun c_42 => ?_) (fun c_42 => (by first | exact absurd c_42 (by decide) | exact absurd (by decide) c_42 : False).elim)
                      refine zs_aload_n dX13_readTold_207 rfl rfl ?_
                      refine zs_get 0 dX13_readTold_208 zf_RX13_187 rfl (v := .int (g3 8)) rfl ?_
                      refine zs_as (y := nI (nxt bt n L (nxt bt n L (nxt bt n L t))).2.2.2.1) (hT3.2.2.1 hk3) ?_
                      refine zs_aload_n dX13_readTold_211 rfl rfl ?_
                      refine zs_callV (M := mX13_columns) (As := []) (st := [.int (nI (nxt bt n L (nxt bt n L (nxt bt n L t))).2.2.2.1)]) (Kc := [(mo, .inr (11, fMo e g3 w3)), ((e 14), .inl (0, 800, .inl nw))]) (Kr := [((e 1), .inl (0, 740, .inl (nF bt))), ((e 18), .inl (2, 12, .inr (.inl nm))), ((e 16), .inl (0, 320, .inl (upd (upd pf (16 * P.1) (nI (nxt bt n L t).2.2.2.1)) ((16 * P.1) + 1) (nI (19 - 15)))))]) [0, 2] [1, 3, 4] 0 dX13_readTold_212 zl_RX13_298 kX13_columns rfl rfl rfl rfl rfl (by decide) rfl rfl (show dd - 1 + 1 ≤ dd by omega) (Nat.zero_le _) (Nat.zero_le _) (Nat.le_of_ble_eq_true rfl) (s_mCols l (dd - 1) mo e g3 w3 nw D hy.1) (fun r K1 hr => ?_)
                      obtain ⟨rfl, rfl⟩ := hr
                      refine zs_K (K' := [(mo, .inr (11, fMo e g3 w3)), ((e 1), .inl (0, 740, .inl (nF bt))), ((e 14), .inl (0, 800, .inl nw)), ((e 18), .inl (2, 12, .inr (.inl nm))), ((e 16), .inl (0, 320, .inl (upd (upd pf (16 * P.1) (nI (nxt bt n L t).2.2.2.1)) ((16 * P.1) + 1) (nI (19 - 15)))))]) [3, 0, 4, 1, 2] rfl (by decide) ?_
                      refine zs_icmp_lt (tgt := 224) dX13_readTold_215 (by decide) (fun c_43 => ?_) (fun c_43 => ?_)
                      · have c_43 : ((nxt bt n L (nxt bt n L (nxt bt n L t))).2.2.2.1) < (D.1 14) := by have hc := c_43; rw [nI_lt' (by omega) (by omega)] at hc; exact hc
                        refine zs_aload_n dX13_readTold_224 rfl rfl ?_
                        refine zs_get 0 dX13_readTold_225 zf_RX13_19 rfl (v := .ref (e 16)) rfl ?_
                        refine zs_iload_n dX13_readTold_228 rfl ?_
                        refine zs_iconst (v := nI 2) dX13_readTold_229 (by decide) ?_
                        refine zs_iadd dX13_readTold_230 ?_
                        refine zs_as (y := nI ((16 * P.1) + 2)) (nI_add _ _) ?_
                        refine zs_aload_n dX13_readTold_231 rfl rfl ?_
                        refine zs_get 0 dX13_readTold_232 zf_RX13_187 rfl (v := .int (g3 8)) rfl ?_
                        refine zs_as (y := nI (nxt bt n L (nxt bt n L (nxt bt n L t))).2.2.2.1) (hT3.2.2.1 hk3) ?_
                        refine zs_iast 4 dX13_readTold_235 rfl (vp_in_nI (by omega) (by omega)) ?_
                        rw [nI_c (n := (16 * P.1) + 2) (by omega)]
                        show zS _ _ _ _ _ _ [(mo, .inr (11, fMo e g3 w3)), ((e 1), .inl (0, 740, .inl (nF bt))), ((e 14), .inl (0, 800, .inl nw)), ((e 18), .inl (2, 12, .inr (.inl nm))), ((e 16), .inl (0, 320, .inl (upd (upd (upd pf (16 * P.1) (nI (nxt bt n L t).2.2.2.1)) ((16 * P.1) + 1) (nI (19 - 15))) ((16 * P.1) + 2) (nI (nxt bt n L (nxt bt n L (nxt bt n L t))).2.2.2.1))))]
                        refine zs_aload_n dX13_readTold_236 rfl rfl ?_
                        refine zs_callV (M := mX13_go) (As := []) (st := []) (Kc := [(mo, .inr (11, fMo e g3 w3)), ((e 1), .inl (0, 740, .inl (nF bt)))]) (Kr := [((e 14), .inl (0, 800, .inl nw)), ((e 18), .inl (2, 12, .inr (.inl nm))), ((e 16), .inl (0, 320, .inl (upd (upd (upd pf (16 * P.1) (nI (nxt bt n L t).2.2.2.1)) ((16 * P.1) + 1) (nI (19 - 15))) ((16 * P.1) + 2) (nI (nxt bt n L (nxt bt n L (nxt bt n L t))).2.2.2.1))))]) [0, 1] [2, 3, 4] 0 dX13_readTold_237 zl_RX13_226 kX13_go rfl rfl rfl rfl rfl (by decide) rfl rfl (show dd - 1 + 1 ≤ dd by omega) (Nat.zero_le _) (Nat.zero_le _) (Nat.le_of_ble_eq_true rfl) (s_mGoT l (dd - 1) mo e g3 w3 n L bt (nxt bt n L (nxt bt n L (nxt bt n L t))) (by omega) hn hL hbt h3_3 h4_3 hT3 (nxt_W (b := bt) (n := n) (L := L) (τ := (nxt bt n L (nxt bt n L t)))) (show ¬ (nxt bt n L (nxt bt n L (nxt bt n L t))).1 = 0 by omega)) (fun r K1 hr => ?_)
                        obtain ⟨rfl, g4, w4, hfr4, hT4, rfl⟩ := hr
                        refine zs_K (K' := [(mo, .inr (11, fMo e g4 w4)), ((e 1), .inl (0, 740, .inl (nF bt))), ((e 14), .inl (0, 800, .inl nw)), ((e 18), .inl (2, 12, .inr (.inl nm))), ((e 16), .inl (0, 320, .inl (upd (upd (upd pf (16 * P.1) (nI (nxt bt n L t).2.2.2.1)) ((16 * P.1) + 1) (nI (19 - 15))) ((16 * P.1) + 2) (nI (nxt bt n L (nxt bt n L (nxt bt n L t))).2.2.2.1))))]) [3, 4, 0, 1, 2] rfl (by decide) ?_
                        have fr4 : mFr [5, 6, 7, 8, 9, 13, 23, 84] g g4 := mFr_t (fr3 : mFr [5, 6, 7, 8, 9, 13, 23, 84] g g3) hfr4 (by decide) (by decide)
                        have h3_4 : g4 3 = nI n := (hfr4 3 (by decide)).trans h3_3
                        have h4_4 : g4 4 = nI L := (hfr4 4 (by decide)).trans h4_3
                        have h23_4 : g4 23 = g3 23 := hfr4 23 (by decide)
                        have hO_4 := nxt_OK (L := L) (τ := (nxt bt n L (nxt bt n L (nxt bt n L t)))) hbt hn
                        have h14_4 := hO_4.1
                        have hkd_4 := mKd_4 (n := n) (L := L) hO_4.1
                        have h84_4 : g4 84 = nI P.1 := (hfr4 84 (by decide)).trans h84_3
                        refine zs_aload_n dX13_readTold_240 rfl rfl ?_
                        refine zs_dup dX13_readTold_241 rfl ?_
                        refine zs_get 0 dX13_readTold_242 zf_RX13_491 rfl (v := .int (g4 84)) rfl ?_
                        refine zs_as (y := nI P.1) h84_4 ?_
                        refine zs_iconst (v := nI 1) dX13_readTold_245 (by decide) ?_
                        refine zs_iadd dX13_readTold_246 ?_
                        refine zs_as (y := nI (P.1 + 1)) (nI_add _ _) ?_
                        refine zs_put 0 dX13_readTold_247 zf_RX13_491 rfl (Nat.le_of_ble_eq_true rfl) (zPv_i _) ?_
                        show zS _ _ _ _ _ _ [(mo, .inr (11, fMo e (upd g4 84 (nI (P.1 + 1))) w4)), ((e 1), .inl (0, 740, .inl (nF bt))), ((e 14), .inl (0, 800, .inl nw)), ((e 18), .inl (2, 12, .inr (.inl nm))), ((e 16), .inl (0, 320, .inl (upd (upd (upd pf (16 * P.1) (nI (nxt bt n L t).2.2.2.1)) ((16 * P.1) + 1) (nI (19 - 15))) ((16 * P.1) + 2) (nI (nxt bt n L (nxt bt n L (nxt bt n L t))).2.2.2.1))))]
                        refine zs_aload_n dX13_readTold_250 rfl rfl ?_
                        refine zs_callV (M := mX13_readEnd) (As := []) (st := []) (Kc := [(mo, .inr (11, fMo e (upd g4 84 (nI (P.1 + 1))) w4)), ((e 1), .inl (0, 740, .inl (nF bt)))]) (Kr := [((e 14), .inl (0, 800, .inl nw)), ((e 18), .inl (2, 12, .inr (.inl nm))), ((e 16), .inl (0, 320, .inl (upd (upd (upd pf (16 * P.1) (nI (nxt bt n L t).2.2.2.1)) ((16 * P.1) + 1) (nI (19 - 15))) ((16 * P.1) + 2) (nI (nxt bt n L (nxt bt n L (nxt bt n L t))).2.2.2.1))))]) [0, 1] [2, 3, 4] 0 dX13_readTold_251 zl_RX13_279 kX13_readEnd rfl rfl rfl rfl rfl (by decide) rfl rfl (show dd - 1 + 1 ≤ dd by omega) (Nat.zero_le _) (Nat.zero_le _) (Nat.le_of_ble_eq_true rfl) (s_mReadEnd l (dd - 1) mo e (upd g4 84 (nI (P.1 + 1))) w4 n L bt (nxt bt n L (nxt bt n L (nxt bt n L (nxt bt n L t)))) (by omega) hn hL hbt h3_4 h4_4 (mTk_f hT4 rfl rfl rfl rfl rfl) (nxt_W (b := bt) (n := n) (L := L) (τ := (nxt bt n L (nxt bt n L (nxt bt n L t))))) hO_4) (fun r K1 hr => ?_)
                        rcases hr with ⟨h59, rfl, ge, we, hfre, hTe, rfl⟩ | ⟨h59, rfl, rfl⟩
                        · refine zs_K (K' := [(mo, .inr (11, fMo e ge we)), ((e 1), .inl (0, 740, .inl (nF bt))), ((e 14), .inl (0, 800, .inl nw)), ((e 18), .inl (2, 12, .inr (.inl nm))), ((e 16), .inl (0, 320, .inl (upd (upd (upd pf (16 * P.1) (nI (nxt bt n L t).2.2.2.1)) ((16 * P.1) + 1) (nI (19 - 15))) ((16 * P.1) + 2) (nI (nxt bt n L (nxt bt n L (nxt bt n L t))).2.2.2.1))))]) [3, 4, 0, 1, 2] rfl (by decide) ?_
                          have ht1 : tNuC (nxt bt n L (nxt bt n L (nxt bt n L t))) (D.1 14) = 0 := by rw [tNuC, if_pos hk3, if_neg (by omega)]
                          have hTh : pThing bt n L D (nxt bt n L (nxt bt n L t)) (nxt bt n L t).2.2.2.1 (pWt P (nxt bt n L t).2.2.2.1) = (0, (nxt bt n L (nxt bt n L (nxt bt n L (nxt bt n L t)))), (nxt bt n L (nxt bt n L (nxt bt n L t))).2.2.2.1, pWn (pWk (pWt P (nxt bt n L t).2.2.2.1) 4) (nxt bt n L (nxt bt n L (nxt bt n L t))).2.2.2.1) := by rw [pThing, if_neg hx15, if_neg hx16, if_neg hx18, if_pos hw, pGive, if_pos ht1]
                          have er : (mTd bt n L D ee t tk P) = (0, nxt bt n L (nxt bt n L (nxt bt n L (nxt bt n L (nxt bt n L t)))), (nxt bt n L (nxt bt n L (nxt bt n L t))).2.2.2.1, (P.1 + 1, (pWn (pWk (pWt P (nxt bt n L t).2.2.2.1) 4) (nxt bt n L (nxt bt n L (nxt bt n L t))).2.2.2.1).2)) := by rw [mTd_t h14 (by omega) hq2 hTh, if_neg (fun h => h rfl), if_pos h59]
                          exact zs_zret dX13_readTold_254 rfl (Or.inr rfl) (Or.inl ⟨by rw [er], rfl, ge, we, (upd (upd (upd pf (16 * P.1) (nI (nxt bt n L t).2.2.2.1)) ((16 * P.1) + 1) (nI (19 - 15))) ((16 * P.1) + 2) (nI (nxt bt n L (nxt bt n L (nxt bt n L t))).2.2.2.1)), mFr_t (mFr_u fr4 (by decide) : mFr [5, 6, 7, 8, 9, 13, 23, 84] g (upd g4 84 (nI (P.1 + 1)))) hfre (by decide) (by decide), by rw [er]; exact hTe, by rw [er]; exact nxt_W, by rw [er]; exact nxt_OK hbt hn, (hfre 84 (by decide)).trans rfl, by rw [er], by rw [er]; exact pRk_3 (Q := (pWk (pWt P (nxt bt n L t).2.2.2.1) 4)) (hP12_k hP12) (by show 2 < un P.2.2.1 P.1 4 P.1; rw [un_s]; decide) (pRk_0 hP12 hR), rfl⟩)
                        · refine zs_K (K' := [(mo, .inr (11, fMo e (mFa (upd g4 84 (nI (P.1 + 1))) 1 (nxt bt n L (nxt bt n L (nxt bt n L (nxt bt n L t))))) w4)), ((e 1), .inl (0, 740, .inl (nF bt))), ((e 14), .inl (0, 800, .inl nw)), ((e 18), .inl (2, 12, .inr (.inl nm))), ((e 16), .inl (0, 320, .inl (upd (upd (upd pf (16 * P.1) (nI (nxt bt n L t).2.2.2.1)) ((16 * P.1) + 1) (nI (19 - 15))) ((16 * P.1) + 2) (nI (nxt bt n L (nxt bt n L (nxt bt n L t))).2.2.2.1))))]) [3, 4, 0, 1, 2] rfl (by decide) ?_
                          have ht1 : tNuC (nxt bt n L (nxt bt n L (nxt bt n L t))) (D.1 14) = 0 := by rw [tNuC, if_pos hk3, if_neg (by omega)]
                          have hTh : pThing bt n L D (nxt bt n L (nxt bt n L t)) (nxt bt n L t).2.2.2.1 (pWt P (nxt bt n L t).2.2.2.1) = (0, (nxt bt n L (nxt bt n L (nxt bt n L (nxt bt n L t)))), (nxt bt n L (nxt bt n L (nxt bt n L t))).2.2.2.1, pWn (pWk (pWt P (nxt bt n L t).2.2.2.1) 4) (nxt bt n L (nxt bt n L (nxt bt n L t))).2.2.2.1) := by rw [pThing, if_neg hx15, if_neg hx16, if_neg hx18, if_pos hw, pGive, if_pos ht1]
                          have er : (mTd bt n L D ee t tk P) = (1, (nxt bt n L (nxt bt n L (nxt bt n L (nxt bt n L t)))), (nxt bt n L (nxt bt n L (nxt bt n L t))).2.2.2.1, (pWn (pWk (pWt P (nxt bt n L t).2.2.2.1) 4) (nxt bt n L (nxt bt n L (nxt bt n L t))).2.2.2.1)) := by rw [mTd_t h14 (by omega) hq2 hTh, if_neg (fun h => h rfl), if_neg (by rw [h59]; decide)]
                          exact zs_zret dX13_readTold_254 rfl (Or.inl rfl) (Or.inr ⟨by rw [er]; exact (show ¬ (1 : Nat) = 0 by decide), rfl, mFa (upd g4 84 (nI (P.1 + 1))) 1 (nxt bt n L (nxt bt n L (nxt bt n L (nxt bt n L t)))), w4, (upd (upd (upd pf (16 * P.1) (nI (nxt bt n L t).2.2.2.1)) ((16 * P.1) + 1) (nI (19 - 15))) ((16 * P.1) + 2) (nI (nxt bt n L (nxt bt n L (nxt bt n L t))).2.2.2.1)), mFr_fb (mFr_u fr4 (by decide)), by rw [er]; rfl, by rw [er]; rfl, rfl⟩)
                      · have c_43 : ¬ (((nxt bt n L (nxt bt n L (nxt bt n L t))).2.2.2.1) < (D.1 14)) := by have hc := c_43; rw [nI_lt' (by omega) (by omega)] at hc; exact hc
                        refine zs_aload_n dX13_readTold_218 rfl rfl ?_
                        refine zs_iconst (v := nI 2) dX13_readTold_219 (by decide) ?_
                        refine zs_callV (M := mX13_bad) (As := [.int (nI 2)]) (st := []) (Kc := [(mo, .inr (11, fMo e g3 w3))]) (Kr := [((e 1), .inl (0, 740, .inl (nF bt))), ((e 14), .inl (0, 800, .inl nw)), ((e 18), .inl (2, 12, .inr (.inl nm))), ((e 16), .inl (0, 320, .inl (upd (upd pf (16 * P.1) (nI (nxt bt n L t).2.2.2.1)) ((16 * P.1) + 1) (nI (19 - 15)))))]) [0] [1, 2, 3, 4] 0 dX13_readTold_220 zl_RX13_216 kX13_bad rfl rfl rfl rfl rfl (by decide) rfl rfl (show dd - 1 + 1 ≤ dd by omega) (Nat.zero_le _) (Nat.zero_le _) (Nat.le_of_ble_eq_true rfl) (s_mBad l (dd - 1) mo e g3 w3 n L (nxt bt n L (nxt bt n L (nxt bt n L t))) 2 hT3 (nxt_W (b := bt) (n := n) (L := L) (τ := (nxt bt n L (nxt bt n L t)))) hO_3) (fun r K1 hr => ?_)
                        rw [mBad_e (by first | (intro; rfl) | (intro h; unfold mKd at h; split at h <;> omega))] at hr
                        obtain ⟨rfl, rfl⟩ := hr
                        refine zs_K (K' := [(mo, .inr (11, fMo e (mFa g3 2 (nxt bt n L (nxt bt n L (nxt bt n L t)))) w3)), ((e 1), .inl (0, 740, .inl (nF bt))), ((e 14), .inl (0, 800, .inl nw)), ((e 18), .inl (2, 12, .inr (.inl nm))), ((e 16), .inl (0, 320, .inl (upd (upd pf (16 * P.1) (nI (nxt bt n L t).2.2.2.1)) ((16 * P.1) + 1) (nI (19 - 15)))))]) [4, 0, 1, 2, 3] rfl (by decide) ?_
                        have ht1 : tNuC (nxt bt n L (nxt bt n L (nxt bt n L t))) (D.1 14) = 2 := by rw [tNuC, if_pos hk3, if_pos (by omega)]
                        have hTh : pThing bt n L D (nxt bt n L (nxt bt n L t)) (nxt bt n L t).2.2.2.1 (pWt P (nxt bt n L t).2.2.2.1) = (2, (nxt bt n L (nxt bt n L (nxt bt n L t))), (nxt bt n L t).2.2.2.1, pWn (pWk (pWt P (nxt bt n L t).2.2.2.1) 4) (nxt bt n L t).2.2.2.1) := by rw [pThing, if_neg hx15, if_neg hx16, if_neg hx18, if_pos hw, pGive, if_neg (by rw [ht1]; decide), ht1]
                        have e1 : (mTd bt n L D ee t tk P).1 = 2 ∧ (mTd bt n L D ee t tk P).2.1 = (nxt bt n L (nxt bt n L (nxt bt n L t))) := by rw [mTd_t h14 (by omega) hq2 hTh, if_pos (show ¬ (2 : Nat) = 0 by decide)]; exact ⟨rfl, rfl⟩
                        exact zs_zret dX13_readTold_223 rfl (Or.inl rfl) (Or.inr ⟨by rw [e1.1]; exact (show ¬ 2 = 0 by decide), rfl, mFa g3 2 (nxt bt n L (nxt bt n L (nxt bt n L t))), w3, (upd (upd pf (16 * P.1) (nI (nxt bt n L t).2.2.2.1)) ((16 * P.1) + 1) (nI (19 - 15))), mFr_fb fr3, by rw [e1.1]; rfl, by rw [e1.2]; rfl, rfl⟩)
                    · have c_41 : ¬ ((mKd n L (nxt bt n L (nxt bt n L (nxt bt n L t)))) = 3) := by have hc := c_41; rw [nI_eq' (by omega) (by omega)] at hc; exact hc
                      have hk3 : ¬ (nxt bt n L (nxt bt n L (nxt bt n L t))).1 = 3 := fun h => c_41 ((mKd_n (by decide)).mpr h)
                      refine zs_aload_n dX13_readTold_181 rfl rfl ?_
                      refine zs_iconst (v := nI 1) dX13_readTold_182 (by decide) ?_
                      refine zs_callV (M := mX13_bad) (As := [.int (nI 1)]) (st := []) (Kc := [(mo, .inr (11, fMo e g3 w3))]) (Kr := [((e 1), .inl (0, 740, .inl (nF bt))), ((e 14), .inl (0, 800, .inl nw)), ((e 18), .inl (2, 12, .inr (.inl nm))), ((e 16), .inl (0, 320, .inl (upd (upd pf (16 * P.1) (nI (nxt bt n L t).2.2.2.1)) ((16 * P.1) + 1) (nI (19 - 15)))))]) [0] [1, 2, 3, 4] 0 dX13_readTold_183 zl_RX13_216 kX13_bad rfl rfl rfl rfl rfl (by decide) rfl rfl (show dd - 1 + 1 ≤ dd by omega) (Nat.zero_le _) (Nat.zero_le _) (Nat.le_of_ble_eq_true rfl) (s_mBad l (dd - 1) mo e g3 w3 n L (nxt bt n L (nxt bt n L (nxt bt n L t))) 1 hT3 (nxt_W (b := bt) (n := n) (L := L) (τ := (nxt bt n L (nxt bt n L t)))) hO_3) (fun r K1 hr => ?_)
                      rw [mBad_e (by first | (intro; rfl) | (intro h; unfold mKd at h; split at h <;> omega))] at hr
                      obtain ⟨rfl, rfl⟩ := hr
                      refine zs_K (K' := [(mo, .inr (11, fMo e (mFa g3 1 (nxt bt n L (nxt bt n L (nxt bt n L t)))) w3)), ((e 1), .inl (0, 740, .inl (nF bt))), ((e 14), .inl (0, 800, .inl nw)), ((e 18), .inl (2, 12, .inr (.inl nm))), ((e 16), .inl (0, 320, .inl (upd (upd pf (16 * P.1) (nI (nxt bt n L t).2.2.2.1)) ((16 * P.1) + 1) (nI (19 - 15)))))]) [4, 0, 1, 2, 3] rfl (by decide) ?_
                      have ht1 : tNuC (nxt bt n L (nxt bt n L (nxt bt n L t))) (D.1 14) = 1 := by rw [tNuC, if_neg hk3]
                      have hTh : pThing bt n L D (nxt bt n L (nxt bt n L t)) (nxt bt n L t).2.2.2.1 (pWt P (nxt bt n L t).2.2.2.1) = (1, (nxt bt n L (nxt bt n L (nxt bt n L t))), (nxt bt n L t).2.2.2.1, pWn (pWk (pWt P (nxt bt n L t).2.2.2.1) 4) (nxt bt n L t).2.2.2.1) := by rw [pThing, if_neg hx15, if_neg hx16, if_neg hx18, if_pos hw, pGive, if_neg (by rw [ht1]; decide), ht1]
                      have e1 : (mTd bt n L D ee t tk P).1 = 1 ∧ (mTd bt n L D ee t tk P).2.1 = (nxt bt n L (nxt bt n L (nxt bt n L t))) := by rw [mTd_t h14 (by omega) hq2 hTh, if_pos (show ¬ (1 : Nat) = 0 by decide)]; exact ⟨rfl, rfl⟩
                      exact zs_zret dX13_readTold_186 rfl (Or.inl rfl) (Or.inr ⟨by rw [e1.1]; exact (show ¬ 1 = 0 by decide), rfl, mFa g3 1 (nxt bt n L (nxt bt n L (nxt bt n L t))), w3, (upd (upd pf (16 * P.1) (nI (nxt bt n L t).2.2.2.1)) ((16 * P.1) + 1) (nI (19 - 15))), mFr_fb fr3, by rw [e1.1]; rfl, by rw [e1.2]; rfl, rfl⟩)
                  · have hx19 : ¬ (nxt bt n L (nxt bt n L t)).2.2.2.2 = some 19 := of_decide_eq_false (bI_f c_36)
                    refine zs_iinc (v := (nI 20)) (lv' := [(2, .int (nI 20)), (1, .int (nI (16 * P.1))), (0, .ref mo)]) dX13_readTold_100 rfl (nI_add _ 1) (Nat.le_of_ble_eq_true rfl) rfl ?_
                    refine zs_goto (tgt := 86) dX13_readTold_103 (by decide) ?_
                    refine zs_iload_n dX13_readTold_86 rfl ?_
                    refine zs_bipush (v := nI 19) dX13_readTold_87 (by decide) ?_
                    refine zs_icmp_gt (tgt := 106) dX13_readTold_89 (by decide) (fun c_44 => ?_) (fun c_44 => (by first | exact absurd c_44 (by decide) | exact absurd (by decide) c_44 : False).elim)
                    refine zs_iload_n dX13_readTold_106 rfl ?_
                    refine zs_bipush (v := nI 19) dX13_readTold_107 (by decide) ?_
                    refine zs_icmp_le (tgt := 118) dX13_readTold_109 (by decide) (fun c_45 => (by first | exact absurd c_45 (by decide) | exact absurd (by decide) c_45 : False).elim) (fun c_45 => ?_)
                    refine zs_aload_n dX13_readTold_112 rfl rfl ?_
                    refine zs_iconst (v := nI 1) dX13_readTold_113 (by decide) ?_
                    refine zs_callV (M := mX13_bad) (As := [.int (nI 1)]) (st := []) (Kc := [(mo, .inr (11, fMo e g2 w2))]) (Kr := [((e 1), .inl (0, 740, .inl (nF bt))), ((e 14), .inl (0, 800, .inl nw)), ((e 18), .inl (2, 12, .inr (.inl nm))), ((e 16), .inl (0, 320, .inl (upd pf (16 * P.1) (nI (nxt bt n L t).2.2.2.1))))]) [0] [1, 2, 3, 4] 0 dX13_readTold_114 zl_RX13_216 kX13_bad rfl rfl rfl rfl rfl (by decide) rfl rfl (show dd - 1 + 1 ≤ dd by omega) (Nat.zero_le _) (Nat.zero_le _) (Nat.le_of_ble_eq_true rfl) (s_mBad l (dd - 1) mo e g2 w2 n L (nxt bt n L (nxt bt n L t)) 1 hT2 (nxt_W (b := bt) (n := n) (L := L) (τ := (nxt bt n L t))) hO_2) (fun r K1 hr => ?_)
                    rw [mBad_e (by first | (intro; rfl) | (intro h; unfold mKd at h; split at h <;> omega))] at hr
                    obtain ⟨rfl, rfl⟩ := hr
                    refine zs_K (K' := [(mo, .inr (11, fMo e (mFa g2 1 (nxt bt n L (nxt bt n L t))) w2)), ((e 1), .inl (0, 740, .inl (nF bt))), ((e 14), .inl (0, 800, .inl nw)), ((e 18), .inl (2, 12, .inr (.inl nm))), ((e 16), .inl (0, 320, .inl (upd pf (16 * P.1) (nI (nxt bt n L t).2.2.2.1))))]) [4, 0, 1, 2, 3] rfl (by decide) ?_
                    have hTh : pThing bt n L D (nxt bt n L (nxt bt n L t)) (nxt bt n L t).2.2.2.1 (pWt P (nxt bt n L t).2.2.2.1) = (1, (nxt bt n L (nxt bt n L t)), (nxt bt n L t).2.2.2.1, pWt P (nxt bt n L t).2.2.2.1) := by rw [pThing, if_neg hx15, if_neg hx16, if_neg hx18, if_neg hx19, if_neg hx17]
                    have e1 : (mTd bt n L D ee t tk P).1 = 1 ∧ (mTd bt n L D ee t tk P).2.1 = (nxt bt n L (nxt bt n L t)) := by rw [mTd_t h14 (by omega) hq2 hTh, if_pos (show ¬ (1 : Nat) = 0 by decide)]; exact ⟨rfl, rfl⟩
                    exact zs_zret dX13_readTold_117 rfl (Or.inl rfl) (Or.inr ⟨by rw [e1.1]; exact (show ¬ 1 = 0 by decide), rfl, mFa g2 1 (nxt bt n L (nxt bt n L t)), w2, (upd pf (16 * P.1) (nI (nxt bt n L t).2.2.2.1)), mFr_fb fr2, by rw [e1.1]; rfl, by rw [e1.2]; rfl, rfl⟩)
        · refine zs_K (K' := [(mo, .inr (11, fMo e (mFa g1 (tNu (nxt bt n L t) ee 59) (nxt bt n L t)) w1)), ((e 1), .inl (0, 740, .inl (nF bt))), ((e 14), .inl (0, 800, .inl nw)), ((e 18), .inl (2, 12, .inr (.inl nm))), ((e 16), .inl (0, 320, .inl pf))]) [3, 4, 0, 1, 2] rfl (by decide) ?_
          refine zs_if_ne (tgt := 73) dX13_readTold_68 (by decide) (fun c_46 => (by first | exact absurd c_46 (by decide) | exact absurd (by decide) c_46 : False).elim) (fun c_46 => ?_)
          refine zs_iconst (v := nI 0) dX13_readTold_71 (by decide) ?_
          have e1 : (mTd bt n L D ee t tk P).1 = (tNu (nxt bt n L t) ee 59) ∧ (mTd bt n L D ee t tk P).2.1 = (nxt bt n L t) := by rw [mTd_n h14 (by omega) hq2]; exact ⟨rfl, rfl⟩
          exact zs_zret dX13_readTold_72 rfl (Or.inl rfl) (Or.inr ⟨by rw [e1.1]; exact hq2, rfl, mFa g1 (tNu (nxt bt n L t) ee 59) (nxt bt n L t), w1, pf, mFr_fb fr1, by rw [e1.1]; rfl, by rw [e1.2]; rfl, rfl⟩)
      · have c_3 : P.1 = 0 := by have hc := c_3; rw [show (0 : Int32) = nI 0 from rfl] at hc; rw [nI_eq' (by omega) (by omega)] at hc; exact hc
        have hP0 : P.1 = 0 := by omega
        refine zs_iconst (v := nI 0) dX13_readTold_50 (by decide) ?_
        refine zs_goto (tgt := 63) dX13_readTold_51 (by decide) ?_
        refine zs_as (y := nI ee) (by rw [hee, if_pos hP0]) ?_
        refine zs_bipush (v := nI 59) dX13_readTold_63 (by decide) ?_
        refine zs_callV (M := mX13_readNumber) (As := [.int (nI ee), .int (nI 59)]) (st := []) (Kc := [(mo, .inr (11, fMo e g1 w1)), ((e 1), .inl (0, 740, .inl (nF bt)))]) (Kr := [((e 14), .inl (0, 800, .inl nw)), ((e 18), .inl (2, 12, .inr (.inl nm))), ((e 16), .inl (0, 320, .inl pf))]) [0, 1] [2, 3, 4] 0 dX13_readTold_65 zl_RX13_251 kX13_readNumber rfl rfl rfl rfl rfl (by decide) rfl rfl (show dd - 1 + 1 ≤ dd by omega) (Nat.zero_le _) (Nat.zero_le _) (Nat.le_of_ble_eq_true rfl) (s_mReadNumber l (dd - 1) mo e g1 w1 n L bt (nxt bt n L t) ee 59 (by omega) hn hL hbt h3_1 h4_1 hT1 (nxt_W (b := bt) (n := n) (L := L) (τ := t)) hO_1 (by omega) (by omega)) (fun r K1 hr => ?_)
        rcases hr with ⟨hq2, rfl, g2, w2, hfr2, h13_2, hT2, rfl⟩ | ⟨hq2, rfl, rfl⟩
        · refine zs_K (K' := [(mo, .inr (11, fMo e g2 w2)), ((e 1), .inl (0, 740, .inl (nF bt))), ((e 14), .inl (0, 800, .inl nw)), ((e 18), .inl (2, 12, .inr (.inl nm))), ((e 16), .inl (0, 320, .inl pf))]) [3, 4, 0, 1, 2] rfl (by decide) ?_
          have fr2 : mFr [5, 6, 7, 8, 9, 13, 23, 84] g g2 := mFr_t (fr1 : mFr [5, 6, 7, 8, 9, 13, 23, 84] g g1) hfr2 (by decide) (by decide)
          have h3_2 : g2 3 = nI n := (hfr2 3 (by decide)).trans h3_1
          have h4_2 : g2 4 = nI L := (hfr2 4 (by decide)).trans h4_1
          have h23_2 : g2 23 = g1 23 := hfr2 23 (by decide)
          have hO_2 := nxt_OK (L := L) (τ := (nxt bt n L t)) hbt hn
          have h14_2 := hO_2.1
          have hkd_2 := mKd_4 (n := n) (L := L) hO_2.1
          have h84_2 : g2 84 = nI P.1 := (hfr2 84 (by decide)).trans h84_1
          have hr2 := tNu_r hq2
          refine zs_if_ne (tgt := 73) dX13_readTold_68 (by decide) (fun c_47 => ?_) (fun c_47 => (by first | exact absurd c_47 (by decide) | exact absurd (by decide) c_47 : False).elim)
          refine zs_aload_n dX13_readTold_73 rfl rfl ?_
          refine zs_get 0 dX13_readTold_74 zf_RX13_19 rfl (v := .ref (e 16)) rfl ?_
          refine zs_iload_n dX13_readTold_77 rfl ?_
          refine zs_aload_n dX13_readTold_78 rfl rfl ?_
          refine zs_get 0 dX13_readTold_79 zf_RX13_223 rfl (v := .int (g2 13)) rfl ?_
          refine zs_as (y := nI (nxt bt n L t).2.2.2.1) h13_2 ?_
          refine zs_iast 4 dX13_readTold_82 rfl (vp_in_nI (by omega) (by omega)) ?_
          rw [nI_c (n := 16 * P.1) (by omega)]
          show zS _ _ _ _ _ _ [(mo, .inr (11, fMo e g2 w2)), ((e 1), .inl (0, 740, .inl (nF bt))), ((e 14), .inl (0, 800, .inl nw)), ((e 18), .inl (2, 12, .inr (.inl nm))), ((e 16), .inl (0, 320, .inl (upd pf (16 * P.1) (nI (nxt bt n L t).2.2.2.1))))]
          refine zs_bipush (v := nI 15) dX13_readTold_83 (by decide) ?_
          refine zs_istore_n (lv' := [(2, .int (nI 15)), (1, .int (nI (16 * P.1))), (0, .ref mo)]) dX13_readTold_85 (Nat.le_of_ble_eq_true rfl) rfl ?_
          refine zs_iload_n dX13_readTold_86 rfl ?_
          refine zs_bipush (v := nI 19) dX13_readTold_87 (by decide) ?_
          refine zs_icmp_gt (tgt := 106) dX13_readTold_89 (by decide) (fun c_48 => (by first | exact absurd c_48 (by decide) | exact absurd (by decide) c_48 : False).elim) (fun c_48 => ?_)
          refine zs_aload_n dX13_readTold_92 rfl rfl ?_
          refine zs_iload_n dX13_readTold_93 rfl ?_
          refine zs_callV (M := mX13_isWord) (As := [.int (nI 15)]) (st := []) (Kc := [(mo, .inr (11, fMo e g2 w2))]) (Kr := [((e 1), .inl (0, 740, .inl (nF bt))), ((e 14), .inl (0, 800, .inl nw)), ((e 18), .inl (2, 12, .inr (.inl nm))), ((e 16), .inl (0, 320, .inl (upd pf (16 * P.1) (nI (nxt bt n L t).2.2.2.1))))]) [0] [1, 2, 3, 4] 0 dX13_readTold_94 zl_RX13_264 kX13_isWord rfl rfl rfl rfl rfl (by decide) rfl rfl (show dd - 1 + 1 ≤ dd by omega) (Nat.zero_le _) (Nat.zero_le _) (Nat.le_of_ble_eq_true rfl) (s_mIsWord l (dd - 1) mo e g2 w2 n L (nxt bt n L (nxt bt n L t)) 15 (by omega) (by omega) hT2 (nxt_W (b := bt) (n := n) (L := L) (τ := (nxt bt n L t))) hO_2) (fun r K1 hr => ?_)
          obtain ⟨rfl, rfl⟩ := hr
          refine zs_K (K' := [(mo, .inr (11, fMo e g2 w2)), ((e 1), .inl (0, 740, .inl (nF bt))), ((e 14), .inl (0, 800, .inl nw)), ((e 18), .inl (2, 12, .inr (.inl nm))), ((e 16), .inl (0, 320, .inl (upd pf (16 * P.1) (nI (nxt bt n L t).2.2.2.1))))]) [4, 0, 1, 2, 3] rfl (by decide) ?_
          refine zs_if_ne (tgt := 106) dX13_readTold_97 (by decide) (fun c_49 => ?_) (fun c_49 => ?_)
          · have hw : (nxt bt n L (nxt bt n L t)).2.2.2.2 = some 15 := of_decide_eq_true (bI_t c_49)
            have hk22 : (nxt bt n L (nxt bt n L t)).1 = 2 := hO_2.2.2.2.2.2.2.2.2 _ hw
            refine zs_iload_n dX13_readTold_106 rfl ?_
            refine zs_bipush (v := nI 19) dX13_readTold_107 (by decide) ?_
            refine zs_icmp_le (tgt := 118) dX13_readTold_109 (by decide) (fun c_50 => ?_) (fun c_50 => (by first | exact absurd c_50 (by decide) | exact absurd (by decide) c_50 : False).elim)
            refine zs_aload_n dX13_readTold_118 rfl rfl ?_
            refine zs_get 0 dX13_readTold_119 zf_RX13_19 rfl (v := .ref (e 16)) rfl ?_
            refine zs_iload_n dX13_readTold_122 rfl ?_
            refine zs_iconst (v := nI 1) dX13_readTold_123 (by decide) ?_
            refine zs_iadd dX13_readTold_124 ?_
            refine zs_as (y := nI ((16 * P.1) + 1)) (nI_add _ _) ?_
            refine zs_iload_n dX13_readTold_125 rfl ?_
            refine zs_bipush (v := nI 15) dX13_readTold_126 (by decide) ?_
            refine zs_isub dX13_readTold_128 ?_
            refine zs_as (y := nI (15 - 15)) (nI_sub (by omega)) ?_
            refine zs_iast 4 dX13_readTold_129 rfl (vp_in_nI (by omega) (by omega)) ?_
            rw [nI_c (n := (16 * P.1) + 1) (by omega)]
            show zS _ _ _ _ _ _ [(mo, .inr (11, fMo e g2 w2)), ((e 1), .inl (0, 740, .inl (nF bt))), ((e 14), .inl (0, 800, .inl nw)), ((e 18), .inl (2, 12, .inr (.inl nm))), ((e 16), .inl (0, 320, .inl (upd (upd pf (16 * P.1) (nI (nxt bt n L t).2.2.2.1)) ((16 * P.1) + 1) (nI (15 - 15)))))]
            refine zs_aload_n dX13_readTold_130 rfl rfl ?_
            refine zs_callV (M := mX13_go) (As := []) (st := []) (Kc := [(mo, .inr (11, fMo e g2 w2)), ((e 1), .inl (0, 740, .inl (nF bt)))]) (Kr := [((e 14), .inl (0, 800, .inl nw)), ((e 18), .inl (2, 12, .inr (.inl nm))), ((e 16), .inl (0, 320, .inl (upd (upd pf (16 * P.1) (nI (nxt bt n L t).2.2.2.1)) ((16 * P.1) + 1) (nI (15 - 15)))))]) [0, 1] [2, 3, 4] 0 dX13_readTold_131 zl_RX13_226 kX13_go rfl rfl rfl rfl rfl (by decide) rfl rfl (show dd - 1 + 1 ≤ dd by omega) (Nat.zero_le _) (Nat.zero_le _) (Nat.le_of_ble_eq_true rfl) (s_mGoT l (dd - 1) mo e g2 w2 n L bt (nxt bt n L (nxt bt n L t)) (by omega) hn hL hbt h3_2 h4_2 hT2 (nxt_W (b := bt) (n := n) (L := L) (τ := (nxt bt n L t))) (show ¬ (nxt bt n L (nxt bt n L t)).1 = 0 by omega)) (fun r K1 hr => ?_)
            obtain ⟨rfl, g3, w3, hfr3, hT3, rfl⟩ := hr
            refine zs_K (K' := [(mo, .inr (11, fMo e g3 w3)), ((e 1), .inl (0, 740, .inl (nF bt))), ((e 14), .inl (0, 800, .inl nw)), ((e 18), .inl (2, 12, .inr (.inl nm))), ((e 16), .inl (0, 320, .inl (upd (upd pf (16 * P.1) (nI (nxt bt n L t).2.2.2.1)) ((16 * P.1) + 1) (nI (15 - 15)))))]) [3, 4, 0, 1, 2] rfl (by decide) ?_
            have fr3 : mFr [5, 6, 7, 8, 9, 13, 23, 84] g g3 := mFr_t (fr2 : mFr [5, 6, 7, 8, 9, 13, 23, 84] g g2) hfr3 (by decide) (by decide)
            have h3_3 : g3 3 = nI n := (hfr3 3 (by decide)).trans h3_2
            have h4_3 : g3 4 = nI L := (hfr3 4 (by decide)).trans h4_2
            have h23_3 : g3 23 = g2 23 := hfr3 23 (by decide)
            have hO_3 := nxt_OK (L := L) (τ := (nxt bt n L (nxt bt n L t))) hbt hn
            have h14_3 := hO_3.1
            have hkd_3 := mKd_4 (n := n) (L := L) hO_3.1
            have h84_3 : g3 84 = nI P.1 := (hfr3 84 (by decide)).trans h84_2
            refine zs_iload_n dX13_readTold_134 rfl ?_
            refine zs_bipush (v := nI 15) dX13_readTold_135 (by decide) ?_
            refine zs_icmp_eq (tgt := 146) dX13_readTold_137 (by decide) (fun c_51 => ?_) (fun c_51 => (by first | exact absurd c_51 (by decide) | exact absurd (by decide) c_51 : False).elim)
            refine zs_aload_n dX13_readTold_146 rfl rfl ?_
            refine zs_iload_n dX13_readTold_147 rfl ?_
            refine zs_iload_n dX13_readTold_148 rfl ?_
            refine zs_bipush (v := nI 15) dX13_readTold_149 (by decide) ?_
            refine zs_icmp_ne (tgt := 158) dX13_readTold_151 (by decide) (fun c_52 => (by first | exact absurd c_52 (by decide) | exact absurd (by decide) c_52 : False).elim) (fun c_52 => ?_)
            refine zs_iconst (v := nI 2) dX13_readTold_154 (by decide) ?_
            refine zs_goto (tgt := 159) dX13_readTold_155 (by decide) ?_
            refine zs_callV (M := mX13_readMen) (As := [.int (nI (16 * P.1)), .int (nI 2)]) (st := []) (Kc := [(mo, .inr (11, fMo e g3 w3)), ((e 1), .inl (0, 740, .inl (nF bt))), ((e 14), .inl (0, 800, .inl nw)), ((e 18), .inl (2, 12, .inr (.inl nm))), ((e 16), .inl (0, 320, .inl (upd (upd pf (16 * P.1) (nI (nxt bt n L t).2.2.2.1)) ((16 * P.1) + 1) (nI (15 - 15)))))]) (Kr := []) [0, 1, 2, 3, 4] [] 0 dX13_readTold_159 zl_RX13_494 kX13_readMen rfl rfl rfl rfl rfl (by decide) rfl rfl (show dd - 1 + 1 ≤ dd by omega) (Nat.zero_le _) (Nat.zero_le _) (Nat.le_of_ble_eq_true rfl) (s_mPMen l (dd - 1) mo e n L bt (nxt bt n L t).2.2.2.1 D nw nm 2 g3 w3 (nxt bt n L (nxt bt n L (nxt bt n L t))) (pWk (pWt P (nxt bt n L t).2.2.2.1) 0) (upd (upd pf (16 * P.1) (nI (nxt bt n L t).2.2.2.1)) ((16 * P.1) + 1) (nI (15 - 15))) (by omega) hn hL hbt h3_3 h4_3 hD hy (by decide) hT3 (nxt_W (b := bt) (n := n) (L := L) (τ := (nxt bt n L (nxt bt n L t)))) hO_3 h20 (hP12_k hP12) (pRk_0 hP12 hR)) (fun r K1 hr => ?_)
            rcases hr with ⟨hq, rfl, gm, wm, pfm, hfrm, hTm, hWm, hOm, hRm, rfl⟩ | ⟨hq, rfl, gm, wm, pfm, hfrm, h10m, h11m, rfl⟩
            · have hfm := mFr_t (fr3 : mFr [5, 6, 7, 8, 9, 13, 23, 84] g g3) hfrm (U := [5, 6, 7, 8, 9, 13, 23, 84]) (by decide) (by decide)
              have h84m : gm 84 = nI P.1 := (hfrm 84 (by decide)).trans h84_3
              refine zs_if_ne (tgt := 240) dX13_readTold_162 (by decide) (fun c_53 => ?_) (fun c_53 => (by first | exact absurd c_53 (by decide) | exact absurd (by decide) c_53 : False).elim)
              refine zs_aload_n dX13_readTold_240 rfl rfl ?_
              refine zs_dup dX13_readTold_241 rfl ?_
              refine zs_get 0 dX13_readTold_242 zf_RX13_491 rfl (v := .int (gm 84)) rfl ?_
              refine zs_as (y := nI P.1) h84m ?_
              refine zs_iconst (v := nI 1) dX13_readTold_245 (by decide) ?_
              refine zs_iadd dX13_readTold_246 ?_
              refine zs_as (y := nI (P.1 + 1)) (nI_add _ _) ?_
              refine zs_put 0 dX13_readTold_247 zf_RX13_491 rfl (Nat.le_of_ble_eq_true rfl) (zPv_i _) ?_
              show zS _ _ _ _ _ _ [(mo, .inr (11, fMo e (upd gm 84 (nI (P.1 + 1))) wm)), ((e 1), .inl (0, 740, .inl (nF bt))), ((e 14), .inl (0, 800, .inl nw)), ((e 18), .inl (2, 12, .inr (.inl nm))), ((e 16), .inl (0, 320, .inl pfm))]
              refine zs_aload_n dX13_readTold_250 rfl rfl ?_
              refine zs_callV (M := mX13_readEnd) (As := []) (st := []) (Kc := [(mo, .inr (11, fMo e (upd gm 84 (nI (P.1 + 1))) wm)), ((e 1), .inl (0, 740, .inl (nF bt)))]) (Kr := [((e 14), .inl (0, 800, .inl nw)), ((e 18), .inl (2, 12, .inr (.inl nm))), ((e 16), .inl (0, 320, .inl pfm))]) [0, 1] [2, 3, 4] 0 dX13_readTold_251 zl_RX13_279 kX13_readEnd rfl rfl rfl rfl rfl (by decide) rfl rfl (show dd - 1 + 1 ≤ dd by omega) (Nat.zero_le _) (Nat.zero_le _) (Nat.le_of_ble_eq_true rfl) (s_mReadEnd l (dd - 1) mo e (upd gm 84 (nI (P.1 + 1))) wm n L bt (mMs bt n L D 2 13 0 (nxt bt n L (nxt bt n L (nxt bt n L t))) (nxt bt n L t).2.2.2.1 (pWk (pWt P (nxt bt n L t).2.2.2.1) 0)).2.1 (by omega) hn hL hbt ((hfrm 3 (by decide)).trans h3_3) ((hfrm 4 (by decide)).trans h4_3) (mTk_f hTm rfl rfl rfl rfl rfl) hWm hOm) (fun r K1 hr => ?_)
              rcases hr with ⟨h59, rfl, ge, we, hfre, hTe, rfl⟩ | ⟨h59, rfl, rfl⟩
              · refine zs_K (K' := [(mo, .inr (11, fMo e ge we)), ((e 1), .inl (0, 740, .inl (nF bt))), ((e 14), .inl (0, 800, .inl nw)), ((e 18), .inl (2, 12, .inr (.inl nm))), ((e 16), .inl (0, 320, .inl pfm))]) [3, 4, 0, 1, 2] rfl (by decide) ?_
                have hTh : pThing bt n L D (nxt bt n L (nxt bt n L t)) (nxt bt n L t).2.2.2.1 (pWt P (nxt bt n L t).2.2.2.1) = pMs bt n L D 2 13 0 (nxt bt n L (nxt bt n L (nxt bt n L t))) (nxt bt n L t).2.2.2.1 (pWk (pWt P (nxt bt n L t).2.2.2.1) 0) := by rw [pThing, if_pos hw]
                have hp := mMs_p bt n L D 2 13 0 (nxt bt n L (nxt bt n L (nxt bt n L t))) (nxt bt n L t).2.2.2.1 (pWk (pWt P (nxt bt n L t).2.2.2.1) 0)
                rcases hp with he | ⟨_, h1, _, _⟩
                · have er : (mTd bt n L D ee t tk P) = (0, nxt bt n L (mMs bt n L D 2 13 0 (nxt bt n L (nxt bt n L (nxt bt n L t))) (nxt bt n L t).2.2.2.1 (pWk (pWt P (nxt bt n L t).2.2.2.1) 0)).2.1, (mMs bt n L D 2 13 0 (nxt bt n L (nxt bt n L (nxt bt n L t))) (nxt bt n L t).2.2.2.1 (pWk (pWt P (nxt bt n L t).2.2.2.1) 0)).2.2.1, (P.1 + 1, (mMs bt n L D 2 13 0 (nxt bt n L (nxt bt n L (nxt bt n L t))) (nxt bt n L t).2.2.2.1 (pWk (pWt P (nxt bt n L t).2.2.2.1) 0)).2.2.2.2)) := by rw [mTd_t h14 (by omega) hq2 hTh, ← he, if_neg (fun h => h hq), if_pos h59]
                  exact zs_zret dX13_readTold_254 rfl (Or.inr rfl) (Or.inl ⟨by rw [er], rfl, ge, we, pfm, mFr_t (mFr_u hfm (by decide) : mFr [5, 6, 7, 8, 9, 13, 23, 84] g (upd gm 84 (nI (P.1 + 1)))) hfre (by decide) (by decide), by rw [er]; exact hTe, by rw [er]; exact nxt_W, by rw [er]; exact nxt_OK hbt hn, (hfre 84 (by decide)).trans rfl, by rw [er], by rw [er]; exact fun i hi => hRm i (by rw [mMs_n]; exact hi), rfl⟩)
                · rw [h59] at h1; exact absurd h1 (by decide)
              · refine zs_K (K' := [(mo, .inr (11, fMo e (mFa (upd gm 84 (nI (P.1 + 1))) 1 ((mMs bt n L D 2 13 0 (nxt bt n L (nxt bt n L (nxt bt n L t))) (nxt bt n L t).2.2.2.1 (pWk (pWt P (nxt bt n L t).2.2.2.1) 0)).2.1)) wm)), ((e 1), .inl (0, 740, .inl (nF bt))), ((e 14), .inl (0, 800, .inl nw)), ((e 18), .inl (2, 12, .inr (.inl nm))), ((e 16), .inl (0, 320, .inl pfm))]) [3, 4, 0, 1, 2] rfl (by decide) ?_
                have hTh : pThing bt n L D (nxt bt n L (nxt bt n L t)) (nxt bt n L t).2.2.2.1 (pWt P (nxt bt n L t).2.2.2.1) = pMs bt n L D 2 13 0 (nxt bt n L (nxt bt n L (nxt bt n L t))) (nxt bt n L t).2.2.2.1 (pWk (pWt P (nxt bt n L t).2.2.2.1) 0) := by rw [pThing, if_pos hw]
                have hp := mMs_p bt n L D 2 13 0 (nxt bt n L (nxt bt n L (nxt bt n L t))) (nxt bt n L t).2.2.2.1 (pWk (pWt P (nxt bt n L t).2.2.2.1) 0)
                have e1 : (mTd bt n L D ee t tk P).1 = 1 ∧ (mTd bt n L D ee t tk P).2.1 = (mMs bt n L D 2 13 0 (nxt bt n L (nxt bt n L (nxt bt n L t))) (nxt bt n L t).2.2.2.1 (pWk (pWt P (nxt bt n L t).2.2.2.1) 0)).2.1 := by
                  rcases hp with he | ⟨_, _, h2, h3⟩
                  · rw [mTd_t h14 (by omega) hq2 hTh, ← he, if_neg (fun h => h hq), if_neg (by rw [h59]; decide)]
                    exact ⟨rfl, rfl⟩
                  · rw [mTd_t h14 (by omega) hq2 hTh, if_pos (by rw [h2]; decide)]
                    exact ⟨h2, h3⟩
                exact zs_zret dX13_readTold_254 rfl (Or.inl rfl) (Or.inr ⟨by rw [e1.1]; decide, rfl, mFa (upd gm 84 (nI (P.1 + 1))) 1 (mMs bt n L D 2 13 0 (nxt bt n L (nxt bt n L (nxt bt n L t))) (nxt bt n L t).2.2.2.1 (pWk (pWt P (nxt bt n L t).2.2.2.1) 0)).2.1, wm, pfm, mFr_fb (mFr_u hfm (by decide)), by rw [e1.1]; rfl, by rw [e1.2]; rfl, rfl⟩)
            · have hfm := mFr_t (fr3 : mFr [5, 6, 7, 8, 9, 13, 23, 84] g g3) hfrm (U := [5, 6, 7, 8, 9, 10, 11, 13, 23, 84]) (by decide) (by decide)
              refine zs_if_ne (tgt := 240) dX13_readTold_162 (by decide) (fun c_54 => (by first | exact absurd c_54 (by decide) | exact absurd (by decide) c_54 : False).elim) (fun c_54 => ?_)
              refine zs_iconst (v := nI 0) dX13_readTold_165 (by decide) ?_
              have hTh : pThing bt n L D (nxt bt n L (nxt bt n L t)) (nxt bt n L t).2.2.2.1 (pWt P (nxt bt n L t).2.2.2.1) = pMs bt n L D 2 13 0 (nxt bt n L (nxt bt n L (nxt bt n L t))) (nxt bt n L t).2.2.2.1 (pWk (pWt P (nxt bt n L t).2.2.2.1) 0) := by rw [pThing, if_pos hw]
              have hp := mMs_p bt n L D 2 13 0 (nxt bt n L (nxt bt n L (nxt bt n L t))) (nxt bt n L t).2.2.2.1 (pWk (pWt P (nxt bt n L t).2.2.2.1) 0)
              rcases hp with he | ⟨h0, _, _, _⟩
              · have er : (mTd bt n L D ee t tk P) = (mMs bt n L D 2 13 0 (nxt bt n L (nxt bt n L (nxt bt n L t))) (nxt bt n L t).2.2.2.1 (pWk (pWt P (nxt bt n L t).2.2.2.1) 0)) := by rw [mTd_t h14 (by omega) hq2 hTh, ← he, if_pos hq]
                exact zs_zret dX13_readTold_166 rfl (Or.inl rfl) (Or.inr ⟨by rw [er]; exact hq, rfl, gm, wm, pfm, hfm, by rw [er]; exact h10m, by rw [er]; exact h11m, rfl⟩)
              · exact absurd h0 hq
          · have hx15 : ¬ (nxt bt n L (nxt bt n L t)).2.2.2.2 = some 15 := of_decide_eq_false (bI_f c_49)
            refine zs_iinc (v := (nI 16)) (lv' := [(2, .int (nI 16)), (1, .int (nI (16 * P.1))), (0, .ref mo)]) dX13_readTold_100 rfl (nI_add _ 1) (Nat.le_of_ble_eq_true rfl) rfl ?_
            refine zs_goto (tgt := 86) dX13_readTold_103 (by decide) ?_
            refine zs_iload_n dX13_readTold_86 rfl ?_
            refine zs_bipush (v := nI 19) dX13_readTold_87 (by decide) ?_
            refine zs_icmp_gt (tgt := 106) dX13_readTold_89 (by decide) (fun c_55 => (by first | exact absurd c_55 (by decide) | exact absurd (by decide) c_55 : False).elim) (fun c_55 => ?_)
            refine zs_aload_n dX13_readTold_92 rfl rfl ?_
            refine zs_iload_n dX13_readTold_93 rfl ?_
            refine zs_callV (M := mX13_isWord) (As := [.int (nI 16)]) (st := []) (Kc := [(mo, .inr (11, fMo e g2 w2))]) (Kr := [((e 1), .inl (0, 740, .inl (nF bt))), ((e 14), .inl (0, 800, .inl nw)), ((e 18), .inl (2, 12, .inr (.inl nm))), ((e 16), .inl (0, 320, .inl (upd pf (16 * P.1) (nI (nxt bt n L t).2.2.2.1))))]) [0] [1, 2, 3, 4] 0 dX13_readTold_94 zl_RX13_264 kX13_isWord rfl rfl rfl rfl rfl (by decide) rfl rfl (show dd - 1 + 1 ≤ dd by omega) (Nat.zero_le _) (Nat.zero_le _) (Nat.le_of_ble_eq_true rfl) (s_mIsWord l (dd - 1) mo e g2 w2 n L (nxt bt n L (nxt bt n L t)) 16 (by omega) (by omega) hT2 (nxt_W (b := bt) (n := n) (L := L) (τ := (nxt bt n L t))) hO_2) (fun r K1 hr => ?_)
            obtain ⟨rfl, rfl⟩ := hr
            refine zs_K (K' := [(mo, .inr (11, fMo e g2 w2)), ((e 1), .inl (0, 740, .inl (nF bt))), ((e 14), .inl (0, 800, .inl nw)), ((e 18), .inl (2, 12, .inr (.inl nm))), ((e 16), .inl (0, 320, .inl (upd pf (16 * P.1) (nI (nxt bt n L t).2.2.2.1))))]) [4, 0, 1, 2, 3] rfl (by decide) ?_
            refine zs_if_ne (tgt := 106) dX13_readTold_97 (by decide) (fun c_56 => ?_) (fun c_56 => ?_)
            · have hw : (nxt bt n L (nxt bt n L t)).2.2.2.2 = some 16 := of_decide_eq_true (bI_t c_56)
              have hk22 : (nxt bt n L (nxt bt n L t)).1 = 2 := hO_2.2.2.2.2.2.2.2.2 _ hw
              refine zs_iload_n dX13_readTold_106 rfl ?_
              refine zs_bipush (v := nI 19) dX13_readTold_107 (by decide) ?_
              refine zs_icmp_le (tgt := 118) dX13_readTold_109 (by decide) (fun c_57 => ?_) (fun c_57 => (by first | exact absurd c_57 (by decide) | exact absurd (by decide) c_57 : False).elim)
              refine zs_aload_n dX13_readTold_118 rfl rfl ?_
              refine zs_get 0 dX13_readTold_119 zf_RX13_19 rfl (v := .ref (e 16)) rfl ?_
              refine zs_iload_n dX13_readTold_122 rfl ?_
              refine zs_iconst (v := nI 1) dX13_readTold_123 (by decide) ?_
              refine zs_iadd dX13_readTold_124 ?_
              refine zs_as (y := nI ((16 * P.1) + 1)) (nI_add _ _) ?_
              refine zs_iload_n dX13_readTold_125 rfl ?_
              refine zs_bipush (v := nI 15) dX13_readTold_126 (by decide) ?_
              refine zs_isub dX13_readTold_128 ?_
              refine zs_as (y := nI (16 - 15)) (nI_sub (by omega)) ?_
              refine zs_iast 4 dX13_readTold_129 rfl (vp_in_nI (by omega) (by omega)) ?_
              rw [nI_c (n := (16 * P.1) + 1) (by omega)]
              show zS _ _ _ _ _ _ [(mo, .inr (11, fMo e g2 w2)), ((e 1), .inl (0, 740, .inl (nF bt))), ((e 14), .inl (0, 800, .inl nw)), ((e 18), .inl (2, 12, .inr (.inl nm))), ((e 16), .inl (0, 320, .inl (upd (upd pf (16 * P.1) (nI (nxt bt n L t).2.2.2.1)) ((16 * P.1) + 1) (nI (16 - 15)))))]
              refine zs_aload_n dX13_readTold_130 rfl rfl ?_
              refine zs_callV (M := mX13_go) (As := []) (st := []) (Kc := [(mo, .inr (11, fMo e g2 w2)), ((e 1), .inl (0, 740, .inl (nF bt)))]) (Kr := [((e 14), .inl (0, 800, .inl nw)), ((e 18), .inl (2, 12, .inr (.inl nm))), ((e 16), .inl (0, 320, .inl (upd (upd pf (16 * P.1) (nI (nxt bt n L t).2.2.2.1)) ((16 * P.1) + 1) (nI (16 - 15)))))]) [0, 1] [2, 3, 4] 0 dX13_readTold_131 zl_RX13_226 kX13_go rfl rfl rfl rfl rfl (by decide) rfl rfl (show dd - 1 + 1 ≤ dd by omega) (Nat.zero_le _) (Nat.zero_le _) (Nat.le_of_ble_eq_true rfl) (s_mGoT l (dd - 1) mo e g2 w2 n L bt (nxt bt n L (nxt bt n L t)) (by omega) hn hL hbt h3_2 h4_2 hT2 (nxt_W (b := bt) (n := n) (L := L) (τ := (nxt bt n L t))) (show ¬ (nxt bt n L (nxt bt n L t)).1 = 0 by omega)) (fun r K1 hr => ?_)
              obtain ⟨rfl, g3, w3, hfr3, hT3, rfl⟩ := hr
              refine zs_K (K' := [(mo, .inr (11, fMo e g3 w3)), ((e 1), .inl (0, 740, .inl (nF bt))), ((e 14), .inl (0, 800, .inl nw)), ((e 18), .inl (2, 12, .inr (.inl nm))), ((e 16), .inl (0, 320, .inl (upd (upd pf (16 * P.1) (nI (nxt bt n L t).2.2.2.1)) ((16 * P.1) + 1) (nI (16 - 15)))))]) [3, 4, 0, 1, 2] rfl (by decide) ?_
              have fr3 : mFr [5, 6, 7, 8, 9, 13, 23, 84] g g3 := mFr_t (fr2 : mFr [5, 6, 7, 8, 9, 13, 23, 84] g g2) hfr3 (by decide) (by decide)
              have h3_3 : g3 3 = nI n := (hfr3 3 (by decide)).trans h3_2
              have h4_3 : g3 4 = nI L := (hfr3 4 (by decide)).trans h4_2
              have h23_3 : g3 23 = g2 23 := hfr3 23 (by decide)
              have hO_3 := nxt_OK (L := L) (τ := (nxt bt n L (nxt bt n L t))) hbt hn
              have h14_3 := hO_3.1
              have hkd_3 := mKd_4 (n := n) (L := L) hO_3.1
              have h84_3 : g3 84 = nI P.1 := (hfr3 84 (by decide)).trans h84_2
              refine zs_iload_n dX13_readTold_134 rfl ?_
              refine zs_bipush (v := nI 15) dX13_readTold_135 (by decide) ?_
              refine zs_icmp_eq (tgt := 146) dX13_readTold_137 (by decide) (fun c_58 => (by first | exact absurd c_58 (by decide) | exact absurd (by decide) c_58 : False).elim) (fun c_58 => ?_)
              refine zs_iload_n dX13_readTold_140 rfl ?_
              refine zs_bipush (v := nI 16) dX13_readTold_141 (by decide) ?_
              refine zs_icmp_ne (tgt := 167) dX13_readTold_143 (by decide) (fun c_59 => (by first | exact absurd c_59 (by decide) | exact absurd (by decide) c_59 : False).elim) (fun c_59 => ?_)
              refine zs_aload_n dX13_readTold_146 rfl rfl ?_
              refine zs_iload_n dX13_readTold_147 rfl ?_
              refine zs_iload_n dX13_readTold_148 rfl ?_
              refine zs_bipush (v := nI 15) dX13_readTold_149 (by decide) ?_
              refine zs_icmp_ne (tgt := 158) dX13_readTold_151 (by decide) (fun c_60 => ?_) (fun c_60 => (by first | exact absurd c_60 (by decide) | exact absurd (by decide) c_60 : False).elim)
              refine zs_iconst (v := nI 1) dX13_readTold_158 (by decide) ?_
              refine zs_callV (M := mX13_readMen) (As := [.int (nI (16 * P.1)), .int (nI 1)]) (st := []) (Kc := [(mo, .inr (11, fMo e g3 w3)), ((e 1), .inl (0, 740, .inl (nF bt))), ((e 14), .inl (0, 800, .inl nw)), ((e 18), .inl (2, 12, .inr (.inl nm))), ((e 16), .inl (0, 320, .inl (upd (upd pf (16 * P.1) (nI (nxt bt n L t).2.2.2.1)) ((16 * P.1) + 1) (nI (16 - 15)))))]) (Kr := []) [0, 1, 2, 3, 4] [] 0 dX13_readTold_159 zl_RX13_494 kX13_readMen rfl rfl rfl rfl rfl (by decide) rfl rfl (show dd - 1 + 1 ≤ dd by omega) (Nat.zero_le _) (Nat.zero_le _) (Nat.le_of_ble_eq_true rfl) (s_mPMen l (dd - 1) mo e n L bt (nxt bt n L t).2.2.2.1 D nw nm 1 g3 w3 (nxt bt n L (nxt bt n L (nxt bt n L t))) (pWk (pWt P (nxt bt n L t).2.2.2.1) 1) (upd (upd pf (16 * P.1) (nI (nxt bt n L t).2.2.2.1)) ((16 * P.1) + 1) (nI (16 - 15))) (by omega) hn hL hbt h3_3 h4_3 hD hy (by decide) hT3 (nxt_W (b := bt) (n := n) (L := L) (τ := (nxt bt n L (nxt bt n L t)))) hO_3 h20 (hP12_k hP12) (pRk_0 hP12 hR)) (fun r K1 hr => ?_)
              rcases hr with ⟨hq, rfl, gm, wm, pfm, hfrm, hTm, hWm, hOm, hRm, rfl⟩ | ⟨hq, rfl, gm, wm, pfm, hfrm, h10m, h11m, rfl⟩
              · have hfm := mFr_t (fr3 : mFr [5, 6, 7, 8, 9, 13, 23, 84] g g3) hfrm (U := [5, 6, 7, 8, 9, 13, 23, 84]) (by decide) (by decide)
                have h84m : gm 84 = nI P.1 := (hfrm 84 (by decide)).trans h84_3
                refine zs_if_ne (tgt := 240) dX13_readTold_162 (by decide) (fun c_61 => ?_) (fun c_61 => (by first | exact absurd c_61 (by decide) | exact absurd (by decide) c_61 : False).elim)
                refine zs_aload_n dX13_readTold_240 rfl rfl ?_
                refine zs_dup dX13_readTold_241 rfl ?_
                refine zs_get 0 dX13_readTold_242 zf_RX13_491 rfl (v := .int (gm 84)) rfl ?_
                refine zs_as (y := nI P.1) h84m ?_
                refine zs_iconst (v := nI 1) dX13_readTold_245 (by decide) ?_
                refine zs_iadd dX13_readTold_246 ?_
                refine zs_as (y := nI (P.1 + 1)) (nI_add _ _) ?_
                refine zs_put 0 dX13_readTold_247 zf_RX13_491 rfl (Nat.le_of_ble_eq_true rfl) (zPv_i _) ?_
                show zS _ _ _ _ _ _ [(mo, .inr (11, fMo e (upd gm 84 (nI (P.1 + 1))) wm)), ((e 1), .inl (0, 740, .inl (nF bt))), ((e 14), .inl (0, 800, .inl nw)), ((e 18), .inl (2, 12, .inr (.inl nm))), ((e 16), .inl (0, 320, .inl pfm))]
                refine zs_aload_n dX13_readTold_250 rfl rfl ?_
                refine zs_callV (M := mX13_readEnd) (As := []) (st := []) (Kc := [(mo, .inr (11, fMo e (upd gm 84 (nI (P.1 + 1))) wm)), ((e 1), .inl (0, 740, .inl (nF bt)))]) (Kr := [((e 14), .inl (0, 800, .inl nw)), ((e 18), .inl (2, 12, .inr (.inl nm))), ((e 16), .inl (0, 320, .inl pfm))]) [0, 1] [2, 3, 4] 0 dX13_readTold_251 zl_RX13_279 kX13_readEnd rfl rfl rfl rfl rfl (by decide) rfl rfl (show dd - 1 + 1 ≤ dd by omega) (Nat.zero_le _) (Nat.zero_le _) (Nat.le_of_ble_eq_true rfl) (s_mReadEnd l (dd - 1) mo e (upd gm 84 (nI (P.1 + 1))) wm n L bt (mMs bt n L D 1 13 0 (nxt bt n L (nxt bt n L (nxt bt n L t))) (nxt bt n L t).2.2.2.1 (pWk (pWt P (nxt bt n L t).2.2.2.1) 1)).2.1 (by omega) hn hL hbt ((hfrm 3 (by decide)).trans h3_3) ((hfrm 4 (by decide)).trans h4_3) (mTk_f hTm rfl rfl rfl rfl rfl) hWm hOm) (fun r K1 hr => ?_)
                rcases hr with ⟨h59, rfl, ge, we, hfre, hTe, rfl⟩ | ⟨h59, rfl, rfl⟩
                · refine zs_K (K' := [(mo, .inr (11, fMo e ge we)), ((e 1), .inl (0, 740, .inl (nF bt))), ((e 14), .inl (0, 800, .inl nw)), ((e 18), .inl (2, 12, .inr (.inl nm))), ((e 16), .inl (0, 320, .inl pfm))]) [3, 4, 0, 1, 2] rfl (by decide) ?_
                  have hTh : pThing bt n L D (nxt bt n L (nxt bt n L t)) (nxt bt n L t).2.2.2.1 (pWt P (nxt bt n L t).2.2.2.1) = pMs bt n L D 1 13 0 (nxt bt n L (nxt bt n L (nxt bt n L t))) (nxt bt n L t).2.2.2.1 (pWk (pWt P (nxt bt n L t).2.2.2.1) 1) := by rw [pThing, if_neg hx15, if_pos hw]
                  have hp := mMs_p bt n L D 1 13 0 (nxt bt n L (nxt bt n L (nxt bt n L t))) (nxt bt n L t).2.2.2.1 (pWk (pWt P (nxt bt n L t).2.2.2.1) 1)
                  rcases hp with he | ⟨_, h1, _, _⟩
                  · have er : (mTd bt n L D ee t tk P) = (0, nxt bt n L (mMs bt n L D 1 13 0 (nxt bt n L (nxt bt n L (nxt bt n L t))) (nxt bt n L t).2.2.2.1 (pWk (pWt P (nxt bt n L t).2.2.2.1) 1)).2.1, (mMs bt n L D 1 13 0 (nxt bt n L (nxt bt n L (nxt bt n L t))) (nxt bt n L t).2.2.2.1 (pWk (pWt P (nxt bt n L t).2.2.2.1) 1)).2.2.1, (P.1 + 1, (mMs bt n L D 1 13 0 (nxt bt n L (nxt bt n L (nxt bt n L t))) (nxt bt n L t).2.2.2.1 (pWk (pWt P (nxt bt n L t).2.2.2.1) 1)).2.2.2.2)) := by rw [mTd_t h14 (by omega) hq2 hTh, ← he, if_neg (fun h => h hq), if_pos h59]
                    exact zs_zret dX13_readTold_254 rfl (Or.inr rfl) (Or.inl ⟨by rw [er], rfl, ge, we, pfm, mFr_t (mFr_u hfm (by decide) : mFr [5, 6, 7, 8, 9, 13, 23, 84] g (upd gm 84 (nI (P.1 + 1)))) hfre (by decide) (by decide), by rw [er]; exact hTe, by rw [er]; exact nxt_W, by rw [er]; exact nxt_OK hbt hn, (hfre 84 (by decide)).trans rfl, by rw [er], by rw [er]; exact fun i hi => hRm i (by rw [mMs_n]; exact hi), rfl⟩)
                  · rw [h59] at h1; exact absurd h1 (by decide)
                · refine zs_K (K' := [(mo, .inr (11, fMo e (mFa (upd gm 84 (nI (P.1 + 1))) 1 ((mMs bt n L D 1 13 0 (nxt bt n L (nxt bt n L (nxt bt n L t))) (nxt bt n L t).2.2.2.1 (pWk (pWt P (nxt bt n L t).2.2.2.1) 1)).2.1)) wm)), ((e 1), .inl (0, 740, .inl (nF bt))), ((e 14), .inl (0, 800, .inl nw)), ((e 18), .inl (2, 12, .inr (.inl nm))), ((e 16), .inl (0, 320, .inl pfm))]) [3, 4, 0, 1, 2] rfl (by decide) ?_
                  have hTh : pThing bt n L D (nxt bt n L (nxt bt n L t)) (nxt bt n L t).2.2.2.1 (pWt P (nxt bt n L t).2.2.2.1) = pMs bt n L D 1 13 0 (nxt bt n L (nxt bt n L (nxt bt n L t))) (nxt bt n L t).2.2.2.1 (pWk (pWt P (nxt bt n L t).2.2.2.1) 1) := by rw [pThing, if_neg hx15, if_pos hw]
                  have hp := mMs_p bt n L D 1 13 0 (nxt bt n L (nxt bt n L (nxt bt n L t))) (nxt bt n L t).2.2.2.1 (pWk (pWt P (nxt bt n L t).2.2.2.1) 1)
                  have e1 : (mTd bt n L D ee t tk P).1 = 1 ∧ (mTd bt n L D ee t tk P).2.1 = (mMs bt n L D 1 13 0 (nxt bt n L (nxt bt n L (nxt bt n L t))) (nxt bt n L t).2.2.2.1 (pWk (pWt P (nxt bt n L t).2.2.2.1) 1)).2.1 := by
                    rcases hp with he | ⟨_, _, h2, h3⟩
                    · rw [mTd_t h14 (by omega) hq2 hTh, ← he, if_neg (fun h => h hq), if_neg (by rw [h59]; decide)]
                      exact ⟨rfl, rfl⟩
                    · rw [mTd_t h14 (by omega) hq2 hTh, if_pos (by rw [h2]; decide)]
                      exact ⟨h2, h3⟩
                  exact zs_zret dX13_readTold_254 rfl (Or.inl rfl) (Or.inr ⟨by rw [e1.1]; decide, rfl, mFa (upd gm 84 (nI (P.1 + 1))) 1 (mMs bt n L D 1 13 0 (nxt bt n L (nxt bt n L (nxt bt n L t))) (nxt bt n L t).2.2.2.1 (pWk (pWt P (nxt bt n L t).2.2.2.1) 1)).2.1, wm, pfm, mFr_fb (mFr_u hfm (by decide)), by rw [e1.1]; rfl, by rw [e1.2]; rfl, rfl⟩)
              · have hfm := mFr_t (fr3 : mFr [5, 6, 7, 8, 9, 13, 23, 84] g g3) hfrm (U := [5, 6, 7, 8, 9, 10, 11, 13, 23, 84]) (by decide) (by decide)
                refine zs_if_ne (tgt := 240) dX13_readTold_162 (by decide) (fun c_62 => (by first | exact absurd c_62 (by decide) | exact absurd (by decide) c_62 : False).elim) (fun c_62 => ?_)
                refine zs_iconst (v := nI 0) dX13_readTold_165 (by decide) ?_
                have hTh : pThing bt n L D (nxt bt n L (nxt bt n L t)) (nxt bt n L t).2.2.2.1 (pWt P (nxt bt n L t).2.2.2.1) = pMs bt n L D 1 13 0 (nxt bt n L (nxt bt n L (nxt bt n L t))) (nxt bt n L t).2.2.2.1 (pWk (pWt P (nxt bt n L t).2.2.2.1) 1) := by rw [pThing, if_neg hx15, if_pos hw]
                have hp := mMs_p bt n L D 1 13 0 (nxt bt n L (nxt bt n L (nxt bt n L t))) (nxt bt n L t).2.2.2.1 (pWk (pWt P (nxt bt n L t).2.2.2.1) 1)
                rcases hp with he | ⟨h0, _, _, _⟩
                · have er : (mTd bt n L D ee t tk P) = (mMs bt n L D 1 13 0 (nxt bt n L (nxt bt n L (nxt bt n L t))) (nxt bt n L t).2.2.2.1 (pWk (pWt P (nxt bt n L t).2.2.2.1) 1)) := by rw [mTd_t h14 (by omega) hq2 hTh, ← he, if_pos hq]
                  exact zs_zret dX13_readTold_166 rfl (Or.inl rfl) (Or.inr ⟨by rw [er]; exact hq, rfl, gm, wm, pfm, hfm, by rw [er]; exact h10m, by rw [er]; exact h11m, rfl⟩)
                · exact absurd h0 hq
            · have hx16 : ¬ (nxt bt n L (nxt bt n L t)).2.2.2.2 = some 16 := of_decide_eq_false (bI_f c_56)
              refine zs_iinc (v := (nI 17)) (lv' := [(2, .int (nI 17)), (1, .int (nI (16 * P.1))), (0, .ref mo)]) dX13_readTold_100 rfl (nI_add _ 1) (Nat.le_of_ble_eq_true rfl) rfl ?_
              refine zs_goto (tgt := 86) dX13_readTold_103 (by decide) ?_
              refine zs_iload_n dX13_readTold_86 rfl ?_
              refine zs_bipush (v := nI 19) dX13_readTold_87 (by decide) ?_
              refine zs_icmp_gt (tgt := 106) dX13_readTold_89 (by decide) (fun c_63 => (by first | exact absurd c_63 (by decide) | exact absurd (by decide) c_63 : False).elim) (fun c_63 => ?_)
              refine zs_aload_n dX13_readTold_92 rfl rfl ?_
              refine zs_iload_n dX13_readTold_93 rfl ?_
              refine zs_callV (M := mX13_isWord) (As := [.int (nI 17)]) (st := []) (Kc := [(mo, .inr (11, fMo e g2 w2))]) (Kr := [((e 1), .inl (0, 740, .inl (nF bt))), ((e 14), .inl (0, 800, .inl nw)), ((e 18), .inl (2, 12, .inr (.inl nm))), ((e 16), .inl (0, 320, .inl (upd pf (16 * P.1) (nI (nxt bt n L t).2.2.2.1))))]) [0] [1, 2, 3, 4] 0 dX13_readTold_94 zl_RX13_264 kX13_isWord rfl rfl rfl rfl rfl (by decide) rfl rfl (show dd - 1 + 1 ≤ dd by omega) (Nat.zero_le _) (Nat.zero_le _) (Nat.le_of_ble_eq_true rfl) (s_mIsWord l (dd - 1) mo e g2 w2 n L (nxt bt n L (nxt bt n L t)) 17 (by omega) (by omega) hT2 (nxt_W (b := bt) (n := n) (L := L) (τ := (nxt bt n L t))) hO_2) (fun r K1 hr => ?_)
              obtain ⟨rfl, rfl⟩ := hr
              refine zs_K (K' := [(mo, .inr (11, fMo e g2 w2)), ((e 1), .inl (0, 740, .inl (nF bt))), ((e 14), .inl (0, 800, .inl nw)), ((e 18), .inl (2, 12, .inr (.inl nm))), ((e 16), .inl (0, 320, .inl (upd pf (16 * P.1) (nI (nxt bt n L t).2.2.2.1))))]) [4, 0, 1, 2, 3] rfl (by decide) ?_
              refine zs_if_ne (tgt := 106) dX13_readTold_97 (by decide) (fun c_64 => ?_) (fun c_64 => ?_)
              · have hw : (nxt bt n L (nxt bt n L t)).2.2.2.2 = some 17 := of_decide_eq_true (bI_t c_64)
                have hk22 : (nxt bt n L (nxt bt n L t)).1 = 2 := hO_2.2.2.2.2.2.2.2.2 _ hw
                refine zs_iload_n dX13_readTold_106 rfl ?_
                refine zs_bipush (v := nI 19) dX13_readTold_107 (by decide) ?_
                refine zs_icmp_le (tgt := 118) dX13_readTold_109 (by decide) (fun c_65 => ?_) (fun c_65 => (by first | exact absurd c_65 (by decide) | exact absurd (by decide) c_65 : False).elim)
                refine zs_aload_n dX13_readTold_118 rfl rfl ?_
                refine zs_get 0 dX13_readTold_119 zf_RX13_19 rfl (v := .ref (e 16)) rfl ?_
                refine zs_iload_n dX13_readTold_122 rfl ?_
                refine zs_iconst (v := nI 1) dX13_readTold_123 (by decide) ?_
                refine zs_iadd dX13_readTold_124 ?_
                refine zs_as (y := nI ((16 * P.1) + 1)) (nI_add _ _) ?_
                refine zs_iload_n dX13_readTold_125 rfl ?_
                refine zs_bipush (v := nI 15) dX13_readTold_126 (by decide) ?_
                refine zs_isub dX13_readTold_128 ?_
                refine zs_as (y := nI (17 - 15)) (nI_sub (by omega)) ?_
                refine zs_iast 4 dX13_readTold_129 rfl (vp_in_nI (by omega) (by omega)) ?_
                rw [nI_c (n := (16 * P.1) + 1) (by omega)]
                show zS _ _ _ _ _ _ [(mo, .inr (11, fMo e g2 w2)), ((e 1), .inl (0, 740, .inl (nF bt))), ((e 14), .inl (0, 800, .inl nw)), ((e 18), .inl (2, 12, .inr (.inl nm))), ((e 16), .inl (0, 320, .inl (upd (upd pf (16 * P.1) (nI (nxt bt n L t).2.2.2.1)) ((16 * P.1) + 1) (nI (17 - 15)))))]
                refine zs_aload_n dX13_readTold_130 rfl rfl ?_
                refine zs_callV (M := mX13_go) (As := []) (st := []) (Kc := [(mo, .inr (11, fMo e g2 w2)), ((e 1), .inl (0, 740, .inl (nF bt)))]) (Kr := [((e 14), .inl (0, 800, .inl nw)), ((e 18), .inl (2, 12, .inr (.inl nm))), ((e 16), .inl (0, 320, .inl (upd (upd pf (16 * P.1) (nI (nxt bt n L t).2.2.2.1)) ((16 * P.1) + 1) (nI (17 - 15)))))]) [0, 1] [2, 3, 4] 0 dX13_readTold_131 zl_RX13_226 kX13_go rfl rfl rfl rfl rfl (by decide) rfl rfl (show dd - 1 + 1 ≤ dd by omega) (Nat.zero_le _) (Nat.zero_le _) (Nat.le_of_ble_eq_true rfl) (s_mGoT l (dd - 1) mo e g2 w2 n L bt (nxt bt n L (nxt bt n L t)) (by omega) hn hL hbt h3_2 h4_2 hT2 (nxt_W (b := bt) (n := n) (L := L) (τ := (nxt bt n L t))) (show ¬ (nxt bt n L (nxt bt n L t)).1 = 0 by omega)) (fun r K1 hr => ?_)
                obtain ⟨rfl, g3, w3, hfr3, hT3, rfl⟩ := hr
                refine zs_K (K' := [(mo, .inr (11, fMo e g3 w3)), ((e 1), .inl (0, 740, .inl (nF bt))), ((e 14), .inl (0, 800, .inl nw)), ((e 18), .inl (2, 12, .inr (.inl nm))), ((e 16), .inl (0, 320, .inl (upd (upd pf (16 * P.1) (nI (nxt bt n L t).2.2.2.1)) ((16 * P.1) + 1) (nI (17 - 15)))))]) [3, 4, 0, 1, 2] rfl (by decide) ?_
                have fr3 : mFr [5, 6, 7, 8, 9, 13, 23, 84] g g3 := mFr_t (fr2 : mFr [5, 6, 7, 8, 9, 13, 23, 84] g g2) hfr3 (by decide) (by decide)
                have h3_3 : g3 3 = nI n := (hfr3 3 (by decide)).trans h3_2
                have h4_3 : g3 4 = nI L := (hfr3 4 (by decide)).trans h4_2
                have h23_3 : g3 23 = g2 23 := hfr3 23 (by decide)
                have hO_3 := nxt_OK (L := L) (τ := (nxt bt n L (nxt bt n L t))) hbt hn
                have h14_3 := hO_3.1
                have hkd_3 := mKd_4 (n := n) (L := L) hO_3.1
                have h84_3 : g3 84 = nI P.1 := (hfr3 84 (by decide)).trans h84_2
                refine zs_iload_n dX13_readTold_134 rfl ?_
                refine zs_bipush (v := nI 15) dX13_readTold_135 (by decide) ?_
                refine zs_icmp_eq (tgt := 146) dX13_readTold_137 (by decide) (fun c_66 => (by first | exact absurd c_66 (by decide) | exact absurd (by decide) c_66 : False).elim) (fun c_66 => ?_)
                refine zs_iload_n dX13_readTold_140 rfl ?_
                refine zs_bipush (v := nI 16) dX13_readTold_141 (by decide) ?_
                refine zs_icmp_ne (tgt := 167) dX13_readTold_143 (by decide) (fun c_67 => ?_) (fun c_67 => (by first | exact absurd c_67 (by decide) | exact absurd (by decide) c_67 : False).elim)
                refine zs_iload_n dX13_readTold_167 rfl ?_
                refine zs_bipush (v := nI 17) dX13_readTold_168 (by decide) ?_
                refine zs_icmp_eq (tgt := 240) dX13_readTold_170 (by decide) (fun c_68 => ?_) (fun c_68 => (by first | exact absurd c_68 (by decide) | exact absurd (by decide) c_68 : False).elim)
                refine zs_aload_n dX13_readTold_240 rfl rfl ?_
                refine zs_dup dX13_readTold_241 rfl ?_
                refine zs_get 0 dX13_readTold_242 zf_RX13_491 rfl (v := .int (g3 84)) rfl ?_
                refine zs_as (y := nI P.1) h84_3 ?_
                refine zs_iconst (v := nI 1) dX13_readTold_245 (by decide) ?_
                refine zs_iadd dX13_readTold_246 ?_
                refine zs_as (y := nI (P.1 + 1)) (nI_add _ _) ?_
                refine zs_put 0 dX13_readTold_247 zf_RX13_491 rfl (Nat.le_of_ble_eq_true rfl) (zPv_i _) ?_
                show zS _ _ _ _ _ _ [(mo, .inr (11, fMo e (upd g3 84 (nI (P.1 + 1))) w3)), ((e 1), .inl (0, 740, .inl (nF bt))), ((e 14), .inl (0, 800, .inl nw)), ((e 18), .inl (2, 12, .inr (.inl nm))), ((e 16), .inl (0, 320, .inl (upd (upd pf (16 * P.1) (nI (nxt bt n L t).2.2.2.1)) ((16 * P.1) + 1) (nI (17 - 15)))))]
                refine zs_aload_n dX13_readTold_250 rfl rfl ?_
                refine zs_callV (M := mX13_readEnd) (As := []) (st := []) (Kc := [(mo, .inr (11, fMo e (upd g3 84 (nI (P.1 + 1))) w3)), ((e 1), .inl (0, 740, .inl (nF bt)))]) (Kr := [((e 14), .inl (0, 800, .inl nw)), ((e 18), .inl (2, 12, .inr (.inl nm))), ((e 16), .inl (0, 320, .inl (upd (upd pf (16 * P.1) (nI (nxt bt n L t).2.2.2.1)) ((16 * P.1) + 1) (nI (17 - 15)))))]) [0, 1] [2, 3, 4] 0 dX13_readTold_251 zl_RX13_279 kX13_readEnd rfl rfl rfl rfl rfl (by decide) rfl rfl (show dd - 1 + 1 ≤ dd by omega) (Nat.zero_le _) (Nat.zero_le _) (Nat.le_of_ble_eq_true rfl) (s_mReadEnd l (dd - 1) mo e (upd g3 84 (nI (P.1 + 1))) w3 n L bt (nxt bt n L (nxt bt n L (nxt bt n L t))) (by omega) hn hL hbt h3_3 h4_3 (mTk_f hT3 rfl rfl rfl rfl rfl) (nxt_W (b := bt) (n := n) (L := L) (τ := (nxt bt n L (nxt bt n L t)))) hO_3) (fun r K1 hr => ?_)
                rcases hr with ⟨h59, rfl, ge, we, hfre, hTe, rfl⟩ | ⟨h59, rfl, rfl⟩
                · refine zs_K (K' := [(mo, .inr (11, fMo e ge we)), ((e 1), .inl (0, 740, .inl (nF bt))), ((e 14), .inl (0, 800, .inl nw)), ((e 18), .inl (2, 12, .inr (.inl nm))), ((e 16), .inl (0, 320, .inl (upd (upd pf (16 * P.1) (nI (nxt bt n L t).2.2.2.1)) ((16 * P.1) + 1) (nI (17 - 15)))))]) [3, 4, 0, 1, 2] rfl (by decide) ?_
                  have hTh : pThing bt n L D (nxt bt n L (nxt bt n L t)) (nxt bt n L t).2.2.2.1 (pWt P (nxt bt n L t).2.2.2.1) = (0, (nxt bt n L (nxt bt n L (nxt bt n L t))), (nxt bt n L t).2.2.2.1, (pWk (pWt P (nxt bt n L t).2.2.2.1) 2)) := by rw [pThing, if_neg hx15, if_neg hx16, if_neg (show ¬ (nxt bt n L (nxt bt n L t)).2.2.2.2 = some 18 from fun h => by rw [hw] at h; exact absurd h (by decide)), if_neg (show ¬ (nxt bt n L (nxt bt n L t)).2.2.2.2 = some 19 from fun h => by rw [hw] at h; exact absurd h (by decide)), if_pos hw]
                  have er : (mTd bt n L D ee t tk P) = (0, nxt bt n L (nxt bt n L (nxt bt n L (nxt bt n L t))), (nxt bt n L t).2.2.2.1, (P.1 + 1, (pWk (pWt P (nxt bt n L t).2.2.2.1) 2).2)) := by rw [mTd_t h14 (by omega) hq2 hTh, if_neg (fun h => h rfl), if_pos h59]
                  exact zs_zret dX13_readTold_254 rfl (Or.inr rfl) (Or.inl ⟨by rw [er], rfl, ge, we, (upd (upd pf (16 * P.1) (nI (nxt bt n L t).2.2.2.1)) ((16 * P.1) + 1) (nI (17 - 15))), mFr_t (mFr_u fr3 (by decide) : mFr [5, 6, 7, 8, 9, 13, 23, 84] g (upd g3 84 (nI (P.1 + 1)))) hfre (by decide) (by decide), by rw [er]; exact hTe, by rw [er]; exact nxt_W, by rw [er]; exact nxt_OK hbt hn, (hfre 84 (by decide)).trans rfl, by rw [er], by rw [er]; exact pRk_2 (Q := (pWk (pWt P (nxt bt n L t).2.2.2.1) 2)) (by show un P.2.2.1 P.1 2 P.1 = 2; rw [un_s]) (pRk_0 hP12 hR), rfl⟩)
                · refine zs_K (K' := [(mo, .inr (11, fMo e (mFa (upd g3 84 (nI (P.1 + 1))) 1 (nxt bt n L (nxt bt n L (nxt bt n L t)))) w3)), ((e 1), .inl (0, 740, .inl (nF bt))), ((e 14), .inl (0, 800, .inl nw)), ((e 18), .inl (2, 12, .inr (.inl nm))), ((e 16), .inl (0, 320, .inl (upd (upd pf (16 * P.1) (nI (nxt bt n L t).2.2.2.1)) ((16 * P.1) + 1) (nI (17 - 15)))))]) [3, 4, 0, 1, 2] rfl (by decide) ?_
                  have hTh : pThing bt n L D (nxt bt n L (nxt bt n L t)) (nxt bt n L t).2.2.2.1 (pWt P (nxt bt n L t).2.2.2.1) = (0, (nxt bt n L (nxt bt n L (nxt bt n L t))), (nxt bt n L t).2.2.2.1, (pWk (pWt P (nxt bt n L t).2.2.2.1) 2)) := by rw [pThing, if_neg hx15, if_neg hx16, if_neg (show ¬ (nxt bt n L (nxt bt n L t)).2.2.2.2 = some 18 from fun h => by rw [hw] at h; exact absurd h (by decide)), if_neg (show ¬ (nxt bt n L (nxt bt n L t)).2.2.2.2 = some 19 from fun h => by rw [hw] at h; exact absurd h (by decide)), if_pos hw]
                  have er : (mTd bt n L D ee t tk P) = (1, (nxt bt n L (nxt bt n L (nxt bt n L t))), (nxt bt n L t).2.2.2.1, (pWk (pWt P (nxt bt n L t).2.2.2.1) 2)) := by rw [mTd_t h14 (by omega) hq2 hTh, if_neg (fun h => h rfl), if_neg (by rw [h59]; decide)]
                  exact zs_zret dX13_readTold_254 rfl (Or.inl rfl) (Or.inr ⟨by rw [er]; exact (show ¬ (1 : Nat) = 0 by decide), rfl, mFa (upd g3 84 (nI (P.1 + 1))) 1 (nxt bt n L (nxt bt n L (nxt bt n L t))), w3, (upd (upd pf (16 * P.1) (nI (nxt bt n L t).2.2.2.1)) ((16 * P.1) + 1) (nI (17 - 15))), mFr_fb (mFr_u fr3 (by decide)), by rw [er]; rfl, by rw [er]; rfl, rfl⟩)
              · have hx17 : ¬ (nxt bt n L (nxt bt n L t)).2.2.2.2 = some 17 := of_decide_eq_false (bI_f c_64)
                refine zs_iinc (v := (nI 18)) (lv' := [(2, .int (nI 18)), (1, .int (nI (16 * P.1))), (0, .ref mo)]) dX13_readTold_100 rfl (nI_add _ 1) (Nat.le_of_ble_eq_true rfl) rfl ?_
                refine zs_goto (tgt := 86) dX13_readTold_103 (by decide) ?_
                refine zs_iload_n dX13_readTold_86 rfl ?_
                refine zs_bipush (v := nI 19) dX13_readTold_87 (by decide) ?_
                refine zs_icmp_gt (tgt := 106) dX13_readTold_89 (by decide) (fun c_69 => (by first | exact absurd c_69 (by decide) | exact absurd (by decide) c_69 : False).elim) (fun c_69 => ?_)
                refine zs_aload_n dX13_readTold_92 rfl rfl ?_
                refine zs_iload_n dX13_readTold_93 rfl ?_
                refine zs_callV (M := mX13_isWord) (As := [.int (nI 18)]) (st := []) (Kc := [(mo, .inr (11, fMo e g2 w2))]) (Kr := [((e 1), .inl (0, 740, .inl (nF bt))), ((e 14), .inl (0, 800, .inl nw)), ((e 18), .inl (2, 12, .inr (.inl nm))), ((e 16), .inl (0, 320, .inl (upd pf (16 * P.1) (nI (nxt bt n L t).2.2.2.1))))]) [0] [1, 2, 3, 4] 0 dX13_readTold_94 zl_RX13_264 kX13_isWord rfl rfl rfl rfl rfl (by decide) rfl rfl (show dd - 1 + 1 ≤ dd by omega) (Nat.zero_le _) (Nat.zero_le _) (Nat.le_of_ble_eq_true rfl) (s_mIsWord l (dd - 1) mo e g2 w2 n L (nxt bt n L (nxt bt n L t)) 18 (by omega) (by omega) hT2 (nxt_W (b := bt) (n := n) (L := L) (τ := (nxt bt n L t))) hO_2) (fun r K1 hr => ?_)
                obtain ⟨rfl, rfl⟩ := hr
                refine zs_K (K' := [(mo, .inr (11, fMo e g2 w2)), ((e 1), .inl (0, 740, .inl (nF bt))), ((e 14), .inl (0, 800, .inl nw)), ((e 18), .inl (2, 12, .inr (.inl nm))), ((e 16), .inl (0, 320, .inl (upd pf (16 * P.1) (nI (nxt bt n L t).2.2.2.1))))]) [4, 0, 1, 2, 3] rfl (by decide) ?_
                refine zs_if_ne (tgt := 106) dX13_readTold_97 (by decide) (fun c_70 => ?_) (fun c_70 => ?_)
                · have hw : (nxt bt n L (nxt bt n L t)).2.2.2.2 = some 18 := of_decide_eq_true (bI_t c_70)
                  have hk22 : (nxt bt n L (nxt bt n L t)).1 = 2 := hO_2.2.2.2.2.2.2.2.2 _ hw
                  refine zs_iload_n dX13_readTold_106 rfl ?_
                  refine zs_bipush (v := nI 19) dX13_readTold_107 (by decide) ?_
                  refine zs_icmp_le (tgt := 118) dX13_readTold_109 (by decide) (fun c_71 => ?_) (fun c_71 => (by first | exact absurd c_71 (by decide) | exact absurd (by decide) c_71 : False).elim)
                  refine zs_aload_n dX13_readTold_118 rfl rfl ?_
                  refine zs_get 0 dX13_readTold_119 zf_RX13_19 rfl (v := .ref (e 16)) rfl ?_
                  refine zs_iload_n dX13_readTold_122 rfl ?_
                  refine zs_iconst (v := nI 1) dX13_readTold_123 (by decide) ?_
                  refine zs_iadd dX13_readTold_124 ?_
                  refine zs_as (y := nI ((16 * P.1) + 1)) (nI_add _ _) ?_
                  refine zs_iload_n dX13_readTold_125 rfl ?_
                  refine zs_bipush (v := nI 15) dX13_readTold_126 (by decide) ?_
                  refine zs_isub dX13_readTold_128 ?_
                  refine zs_as (y := nI (18 - 15)) (nI_sub (by omega)) ?_
                  refine zs_iast 4 dX13_readTold_129 rfl (vp_in_nI (by omega) (by omega)) ?_
                  rw [nI_c (n := (16 * P.1) + 1) (by omega)]
                  show zS _ _ _ _ _ _ [(mo, .inr (11, fMo e g2 w2)), ((e 1), .inl (0, 740, .inl (nF bt))), ((e 14), .inl (0, 800, .inl nw)), ((e 18), .inl (2, 12, .inr (.inl nm))), ((e 16), .inl (0, 320, .inl (upd (upd pf (16 * P.1) (nI (nxt bt n L t).2.2.2.1)) ((16 * P.1) + 1) (nI (18 - 15)))))]
                  refine zs_aload_n dX13_readTold_130 rfl rfl ?_
                  refine zs_callV (M := mX13_go) (As := []) (st := []) (Kc := [(mo, .inr (11, fMo e g2 w2)), ((e 1), .inl (0, 740, .inl (nF bt)))]) (Kr := [((e 14), .inl (0, 800, .inl nw)), ((e 18), .inl (2, 12, .inr (.inl nm))), ((e 16), .inl (0, 320, .inl (upd (upd pf (16 * P.1) (nI (nxt bt n L t).2.2.2.1)) ((16 * P.1) + 1) (nI (18 - 15)))))]) [0, 1] [2, 3, 4] 0 dX13_readTold_131 zl_RX13_226 kX13_go rfl rfl rfl rfl rfl (by decide) rfl rfl (show dd - 1 + 1 ≤ dd by omega) (Nat.zero_le _) (Nat.zero_le _) (Nat.le_of_ble_eq_true rfl) (s_mGoT l (dd - 1) mo e g2 w2 n L bt (nxt bt n L (nxt bt n L t)) (by omega) hn hL hbt h3_2 h4_2 hT2 (nxt_W (b := bt) (n := n) (L := L) (τ := (nxt bt n L t))) (show ¬ (nxt bt n L (nxt bt n L t)).1 = 0 by omega)) (fun r K1 hr => ?_)
                  obtain ⟨rfl, g3, w3, hfr3, hT3, rfl⟩ := hr
                  refine zs_K (K' := [(mo, .inr (11, fMo e g3 w3)), ((e 1), .inl (0, 740, .inl (nF bt))), ((e 14), .inl (0, 800, .inl nw)), ((e 18), .inl (2, 12, .inr (.inl nm))), ((e 16), .inl (0, 320, .inl (upd (upd pf (16 * P.1) (nI (nxt bt n L t).2.2.2.1)) ((16 * P.1) + 1) (nI (18 - 15)))))]) [3, 4, 0, 1, 2] rfl (by decide) ?_
                  have fr3 : mFr [5, 6, 7, 8, 9, 13, 23, 84] g g3 := mFr_t (fr2 : mFr [5, 6, 7, 8, 9, 13, 23, 84] g g2) hfr3 (by decide) (by decide)
                  have h3_3 : g3 3 = nI n := (hfr3 3 (by decide)).trans h3_2
                  have h4_3 : g3 4 = nI L := (hfr3 4 (by decide)).trans h4_2
                  have h23_3 : g3 23 = g2 23 := hfr3 23 (by decide)
                  have hO_3 := nxt_OK (L := L) (τ := (nxt bt n L (nxt bt n L t))) hbt hn
                  have h14_3 := hO_3.1
                  have hkd_3 := mKd_4 (n := n) (L := L) hO_3.1
                  have h84_3 : g3 84 = nI P.1 := (hfr3 84 (by decide)).trans h84_2
                  refine zs_iload_n dX13_readTold_134 rfl ?_
                  refine zs_bipush (v := nI 15) dX13_readTold_135 (by decide) ?_
                  refine zs_icmp_eq (tgt := 146) dX13_readTold_137 (by decide) (fun c_72 => (by first | exact absurd c_72 (by decide) | exact absurd (by decide) c_72 : False).elim) (fun c_72 => ?_)
                  refine zs_iload_n dX13_readTold_140 rfl ?_
                  refine zs_bipush (v := nI 16) dX13_readTold_141 (by decide) ?_
                  refine zs_icmp_ne (tgt := 167) dX13_readTold_143 (by decide) (fun c_73 => ?_) (fun c_73 => (by first | exact absurd c_73 (by decide) | exact absurd (by decide) c_73 : False).elim)
                  refine zs_iload_n dX13_readTold_167 rfl ?_
                  refine zs_bipush (v := nI 17) dX13_readTold_168 (by decide) ?_
                  refine zs_icmp_eq (tgt := 240) dX13_readTold_170 (by decide) (fun c_74 => (by first | exact absurd c_74 (by decide) | exact absurd (by decide) c_74 : False).elim) (fun c_74 => ?_)
                  refine zs_aload_n dX13_readTold_173 rfl rfl ?_
                  refine zs_get 0 dX13_readTold_174 zf_RX13_170 rfl (v := .int (g3 7)) rfl ?_
                  refine zs_as (y := nI (mKd n L (nxt bt n L (nxt bt n L (nxt bt n L t))))) (mTk_7 hT3) ?_
                  refine zs_iconst (v := nI 3) dX13_readTold_177 (by decide) ?_
                  refine zs_icmp_eq (tgt := 187) dX13_readTold_178 (by decide) (fun c_75 => ?_) (fun c_75 => ?_)
                  · have c_75 : (mKd n L (nxt bt n L (nxt bt n L (nxt bt n L t)))) = 3 := by have hc := c_75; rw [nI_eq' (by omega) (by omega)] at hc; exact hc
                    have hk3 : (nxt bt n L (nxt bt n L (nxt bt n L t))).1 = 3 := (mKd_n (by decide)).mp c_75
                    have hv3 := hO_3.2.2.2.2.1 hk3
                    refine zs_iload_n dX13_readTold_187 rfl ?_
                    refine zs_bipush (v := nI 18) dX13_readTold_188 (by decide) ?_
                    refine zs_icmp_ne (tgt := 207) dX13_readTold_190 (by decide) (fun c_76 => (by first | exact absurd c_76 (by decide) | exact absurd (by decide) c_76 : False).elim) (fun c_76 => ?_)
                    refine zs_aload_n dX13_readTold_193 rfl rfl ?_
                    refine zs_aload_n dX13_readTold_194 rfl rfl ?_
                    refine zs_get 0 dX13_readTold_195 zf_RX13_187 rfl (v := .int (g3 8)) rfl ?_
                    refine zs_as (y := nI (nxt bt n L (nxt bt n L (nxt bt n L t))).2.2.2.1) (hT3.2.2.1 hk3) ?_
                    refine zs_callV (M := mX13_isAim) (As := [.int (nI (nxt bt n L (nxt bt n L (nxt bt n L t))).2.2.2.1)]) (st := []) (Kc := [(mo, .inr (11, fMo e g3 w3)), ((e 14), .inl (0, 800, .inl nw))]) (Kr := [((e 1), .inl (0, 740, .inl (nF bt))), ((e 18), .inl (2, 12, .inr (.inl nm))), ((e 16), .inl (0, 320, .inl (upd (upd pf (16 * P.1) (nI (nxt bt n L t).2.2.2.1)) ((16 * P.1) + 1) (nI (18 - 15)))))]) [0, 2] [1, 3, 4] 0 dX13_readTold_198 zl_RX13_448 kX13_isAim rfl rfl rfl rfl rfl (by decide) rfl rfl (show dd - 1 + 1 ≤ dd by omega) (Nat.zero_le _) (Nat.zero_le _) (Nat.le_of_ble_eq_true rfl) (s_mIsAim l (dd - 1) mo e g3 w3 nw D (nI (nxt bt n L (nxt bt n L (nxt bt n L t))).2.2.2.1) (by omega) hy.1 hD) (fun r K1 hr => ?_)
                    obtain ⟨rfl, rfl⟩ := hr
                    refine zs_K (K' := [(mo, .inr (11, fMo e g3 w3)), ((e 1), .inl (0, 740, .inl (nF bt))), ((e 14), .inl (0, 800, .inl nw)), ((e 18), .inl (2, 12, .inr (.inl nm))), ((e 16), .inl (0, 320, .inl (upd (upd pf (16 * P.1) (nI (nxt bt n L t).2.2.2.1)) ((16 * P.1) + 1) (nI (18 - 15)))))]) [3, 0, 4, 1, 2] rfl (by decide) ?_
                    refine zs_if_ne (tgt := 224) dX13_readTold_201 (by decide) (fun c_77 => ?_) (fun c_77 => ?_)
                    · have hai := bI_t c_77
                      refine zs_aload_n dX13_readTold_224 rfl rfl ?_
                      refine zs_get 0 dX13_readTold_225 zf_RX13_19 rfl (v := .ref (e 16)) rfl ?_
                      refine zs_iload_n dX13_readTold_228 rfl ?_
                      refine zs_iconst (v := nI 2) dX13_readTold_229 (by decide) ?_
                      refine zs_iadd dX13_readTold_230 ?_
                      refine zs_as (y := nI ((16 * P.1) + 2)) (nI_add _ _) ?_
                      refine zs_aload_n dX13_readTold_231 rfl rfl ?_
                      refine zs_get 0 dX13_readTold_232 zf_RX13_187 rfl (v := .int (g3 8)) rfl ?_
                      refine zs_as (y := nI (nxt bt n L (nxt bt n L (nxt bt n L t))).2.2.2.1) (hT3.2.2.1 hk3) ?_
                      refine zs_iast 4 dX13_readTold_235 rfl (vp_in_nI (by omega) (by omega)) ?_
                      rw [nI_c (n := (16 * P.1) + 2) (by omega)]
                      show zS _ _ _ _ _ _ [(mo, .inr (11, fMo e g3 w3)), ((e 1), .inl (0, 740, .inl (nF bt))), ((e 14), .inl (0, 800, .inl nw)), ((e 18), .inl (2, 12, .inr (.inl nm))), ((e 16), .inl (0, 320, .inl (upd (upd (upd pf (16 * P.1) (nI (nxt bt n L t).2.2.2.1)) ((16 * P.1) + 1) (nI (18 - 15))) ((16 * P.1) + 2) (nI (nxt bt n L (nxt bt n L (nxt bt n L t))).2.2.2.1))))]
                      refine zs_aload_n dX13_readTold_236 rfl rfl ?_
                      refine zs_callV (M := mX13_go) (As := []) (st := []) (Kc := [(mo, .inr (11, fMo e g3 w3)), ((e 1), .inl (0, 740, .inl (nF bt)))]) (Kr := [((e 14), .inl (0, 800, .inl nw)), ((e 18), .inl (2, 12, .inr (.inl nm))), ((e 16), .inl (0, 320, .inl (upd (upd (upd pf (16 * P.1) (nI (nxt bt n L t).2.2.2.1)) ((16 * P.1) + 1) (nI (18 - 15))) ((16 * P.1) + 2) (nI (nxt bt n L (nxt bt n L (nxt bt n L t))).2.2.2.1))))]) [0, 1] [2, 3, 4] 0 dX13_readTold_237 zl_RX13_226 kX13_go rfl rfl rfl rfl rfl (by decide) rfl rfl (show dd - 1 + 1 ≤ dd by omega) (Nat.zero_le _) (Nat.zero_le _) (Nat.le_of_ble_eq_true rfl) (s_mGoT l (dd - 1) mo e g3 w3 n L bt (nxt bt n L (nxt bt n L (nxt bt n L t))) (by omega) hn hL hbt h3_3 h4_3 hT3 (nxt_W (b := bt) (n := n) (L := L) (τ := (nxt bt n L (nxt bt n L t)))) (show ¬ (nxt bt n L (nxt bt n L (nxt bt n L t))).1 = 0 by omega)) (fun r K1 hr => ?_)
                      obtain ⟨rfl, g4, w4, hfr4, hT4, rfl⟩ := hr
                      refine zs_K (K' := [(mo, .inr (11, fMo e g4 w4)), ((e 1), .inl (0, 740, .inl (nF bt))), ((e 14), .inl (0, 800, .inl nw)), ((e 18), .inl (2, 12, .inr (.inl nm))), ((e 16), .inl (0, 320, .inl (upd (upd (upd pf (16 * P.1) (nI (nxt bt n L t).2.2.2.1)) ((16 * P.1) + 1) (nI (18 - 15))) ((16 * P.1) + 2) (nI (nxt bt n L (nxt bt n L (nxt bt n L t))).2.2.2.1))))]) [3, 4, 0, 1, 2] rfl (by decide) ?_
                      have fr4 : mFr [5, 6, 7, 8, 9, 13, 23, 84] g g4 := mFr_t (fr3 : mFr [5, 6, 7, 8, 9, 13, 23, 84] g g3) hfr4 (by decide) (by decide)
                      have h3_4 : g4 3 = nI n := (hfr4 3 (by decide)).trans h3_3
                      have h4_4 : g4 4 = nI L := (hfr4 4 (by decide)).trans h4_3
                      have h23_4 : g4 23 = g3 23 := hfr4 23 (by decide)
                      have hO_4 := nxt_OK (L := L) (τ := (nxt bt n L (nxt bt n L (nxt bt n L t)))) hbt hn
                      have h14_4 := hO_4.1
                      have hkd_4 := mKd_4 (n := n) (L := L) hO_4.1
                      have h84_4 : g4 84 = nI P.1 := (hfr4 84 (by decide)).trans h84_3
                      refine zs_aload_n dX13_readTold_240 rfl rfl ?_
                      refine zs_dup dX13_readTold_241 rfl ?_
                      refine zs_get 0 dX13_readTold_242 zf_RX13_491 rfl (v := .int (g4 84)) rfl ?_
                      refine zs_as (y := nI P.1) h84_4 ?_
                      refine zs_iconst (v := nI 1) dX13_readTold_245 (by decide) ?_
                      refine zs_iadd dX13_readTold_246 ?_
                      refine zs_as (y := nI (P.1 + 1)) (nI_add _ _) ?_
                      refine zs_put 0 dX13_readTold_247 zf_RX13_491 rfl (Nat.le_of_ble_eq_true rfl) (zPv_i _) ?_
                      show zS _ _ _ _ _ _ [(mo, .inr (11, fMo e (upd g4 84 (nI (P.1 + 1))) w4)), ((e 1), .inl (0, 740, .inl (nF bt))), ((e 14), .inl (0, 800, .inl nw)), ((e 18), .inl (2, 12, .inr (.inl nm))), ((e 16), .inl (0, 320, .inl (upd (upd (upd pf (16 * P.1) (nI (nxt bt n L t).2.2.2.1)) ((16 * P.1) + 1) (nI (18 - 15))) ((16 * P.1) + 2) (nI (nxt bt n L (nxt bt n L (nxt bt n L t))).2.2.2.1))))]
                      refine zs_aload_n dX13_readTold_250 rfl rfl ?_
                      refine zs_callV (M := mX13_readEnd) (As := []) (st := []) (Kc := [(mo, .inr (11, fMo e (upd g4 84 (nI (P.1 + 1))) w4)), ((e 1), .inl (0, 740, .inl (nF bt)))]) (Kr := [((e 14), .inl (0, 800, .inl nw)), ((e 18), .inl (2, 12, .inr (.inl nm))), ((e 16), .inl (0, 320, .inl (upd (upd (upd pf (16 * P.1) (nI (nxt bt n L t).2.2.2.1)) ((16 * P.1) + 1) (nI (18 - 15))) ((16 * P.1) + 2) (nI (nxt bt n L (nxt bt n L (nxt bt n L t))).2.2.2.1))))]) [0, 1] [2, 3, 4] 0 dX13_readTold_251 zl_RX13_279 kX13_readEnd rfl rfl rfl rfl rfl (by decide) rfl rfl (show dd - 1 + 1 ≤ dd by omega) (Nat.zero_le _) (Nat.zero_le _) (Nat.le_of_ble_eq_true rfl) (s_mReadEnd l (dd - 1) mo e (upd g4 84 (nI (P.1 + 1))) w4 n L bt (nxt bt n L (nxt bt n L (nxt bt n L (nxt bt n L t)))) (by omega) hn hL hbt h3_4 h4_4 (mTk_f hT4 rfl rfl rfl rfl rfl) (nxt_W (b := bt) (n := n) (L := L) (τ := (nxt bt n L (nxt bt n L (nxt bt n L t))))) hO_4) (fun r K1 hr => ?_)
                      rcases hr with ⟨h59, rfl, ge, we, hfre, hTe, rfl⟩ | ⟨h59, rfl, rfl⟩
                      · refine zs_K (K' := [(mo, .inr (11, fMo e ge we)), ((e 1), .inl (0, 740, .inl (nF bt))), ((e 14), .inl (0, 800, .inl nw)), ((e 18), .inl (2, 12, .inr (.inl nm))), ((e 16), .inl (0, 320, .inl (upd (upd (upd pf (16 * P.1) (nI (nxt bt n L t).2.2.2.1)) ((16 * P.1) + 1) (nI (18 - 15))) ((16 * P.1) + 2) (nI (nxt bt n L (nxt bt n L (nxt bt n L t))).2.2.2.1))))]) [3, 4, 0, 1, 2] rfl (by decide) ?_
                        have ht1 : tNu (nxt bt n L (nxt bt n L (nxt bt n L t))) 0 2147483647 = 0 := by rw [tNu, if_pos hk3, if_neg (by omega), if_neg (by omega)]
                        have hTh : pThing bt n L D (nxt bt n L (nxt bt n L t)) (nxt bt n L t).2.2.2.1 (pWt P (nxt bt n L t).2.2.2.1) = (0, (nxt bt n L (nxt bt n L (nxt bt n L (nxt bt n L t)))), (nxt bt n L (nxt bt n L (nxt bt n L t))).2.2.2.1, pWn (pWk (pWt P (nxt bt n L t).2.2.2.1) 3) (nxt bt n L (nxt bt n L (nxt bt n L t))).2.2.2.1) := by rw [pThing, if_neg hx15, if_neg hx16, if_pos hw, pAmP, if_neg (fun h => by rw [hai] at h; exact absurd h.2 (by decide)), if_pos ht1]
                        have er : (mTd bt n L D ee t tk P) = (0, nxt bt n L (nxt bt n L (nxt bt n L (nxt bt n L (nxt bt n L t)))), (nxt bt n L (nxt bt n L (nxt bt n L t))).2.2.2.1, (P.1 + 1, (pWn (pWk (pWt P (nxt bt n L t).2.2.2.1) 3) (nxt bt n L (nxt bt n L (nxt bt n L t))).2.2.2.1).2)) := by rw [mTd_t h14 (by omega) hq2 hTh, if_neg (fun h => h rfl), if_pos h59]
                        exact zs_zret dX13_readTold_254 rfl (Or.inr rfl) (Or.inl ⟨by rw [er], rfl, ge, we, (upd (upd (upd pf (16 * P.1) (nI (nxt bt n L t).2.2.2.1)) ((16 * P.1) + 1) (nI (18 - 15))) ((16 * P.1) + 2) (nI (nxt bt n L (nxt bt n L (nxt bt n L t))).2.2.2.1)), mFr_t (mFr_u fr4 (by decide) : mFr [5, 6, 7, 8, 9, 13, 23, 84] g (upd g4 84 (nI (P.1 + 1)))) hfre (by decide) (by decide), by rw [er]; exact hTe, by rw [er]; exact nxt_W, by rw [er]; exact nxt_OK hbt hn, (hfre 84 (by decide)).trans rfl, by rw [er], by rw [er]; exact pRk_3 (Q := (pWk (pWt P (nxt bt n L t).2.2.2.1) 3)) (hP12_k hP12) (by show 2 < un P.2.2.1 P.1 3 P.1; rw [un_s]; decide) (pRk_0 hP12 hR), rfl⟩)
                      · refine zs_K (K' := [(mo, .inr (11, fMo e (mFa (upd g4 84 (nI (P.1 + 1))) 1 (nxt bt n L (nxt bt n L (nxt bt n L (nxt bt n L t))))) w4)), ((e 1), .inl (0, 740, .inl (nF bt))), ((e 14), .inl (0, 800, .inl nw)), ((e 18), .inl (2, 12, .inr (.inl nm))), ((e 16), .inl (0, 320, .inl (upd (upd (upd pf (16 * P.1) (nI (nxt bt n L t).2.2.2.1)) ((16 * P.1) + 1) (nI (18 - 15))) ((16 * P.1) + 2) (nI (nxt bt n L (nxt bt n L (nxt bt n L t))).2.2.2.1))))]) [3, 4, 0, 1, 2] rfl (by decide) ?_
                        have ht1 : tNu (nxt bt n L (nxt bt n L (nxt bt n L t))) 0 2147483647 = 0 := by rw [tNu, if_pos hk3, if_neg (by omega), if_neg (by omega)]
                        have hTh : pThing bt n L D (nxt bt n L (nxt bt n L t)) (nxt bt n L t).2.2.2.1 (pWt P (nxt bt n L t).2.2.2.1) = (0, (nxt bt n L (nxt bt n L (nxt bt n L (nxt bt n L t)))), (nxt bt n L (nxt bt n L (nxt bt n L t))).2.2.2.1, pWn (pWk (pWt P (nxt bt n L t).2.2.2.1) 3) (nxt bt n L (nxt bt n L (nxt bt n L t))).2.2.2.1) := by rw [pThing, if_neg hx15, if_neg hx16, if_pos hw, pAmP, if_neg (fun h => by rw [hai] at h; exact absurd h.2 (by decide)), if_pos ht1]
                        have er : (mTd bt n L D ee t tk P) = (1, (nxt bt n L (nxt bt n L (nxt bt n L (nxt bt n L t)))), (nxt bt n L (nxt bt n L (nxt bt n L t))).2.2.2.1, (pWn (pWk (pWt P (nxt bt n L t).2.2.2.1) 3) (nxt bt n L (nxt bt n L (nxt bt n L t))).2.2.2.1)) := by rw [mTd_t h14 (by omega) hq2 hTh, if_neg (fun h => h rfl), if_neg (by rw [h59]; decide)]
                        exact zs_zret dX13_readTold_254 rfl (Or.inl rfl) (Or.inr ⟨by rw [er]; exact (show ¬ (1 : Nat) = 0 by decide), rfl, mFa (upd g4 84 (nI (P.1 + 1))) 1 (nxt bt n L (nxt bt n L (nxt bt n L (nxt bt n L t)))), w4, (upd (upd (upd pf (16 * P.1) (nI (nxt bt n L t).2.2.2.1)) ((16 * P.1) + 1) (nI (18 - 15))) ((16 * P.1) + 2) (nI (nxt bt n L (nxt bt n L (nxt bt n L t))).2.2.2.1)), mFr_fb (mFr_u fr4 (by decide)), by rw [er]; rfl, by rw [er]; rfl, rfl⟩)
                    · have hai := bI_f c_77
                      refine zs_goto (tgt := 218) dX13_readTold_204 (by decide) ?_
                      refine zs_aload_n dX13_readTold_218 rfl rfl ?_
                      refine zs_iconst (v := nI 2) dX13_readTold_219 (by decide) ?_
                      refine zs_callV (M := mX13_bad) (As := [.int (nI 2)]) (st := []) (Kc := [(mo, .inr (11, fMo e g3 w3))]) (Kr := [((e 1), .inl (0, 740, .inl (nF bt))), ((e 14), .inl (0, 800, .inl nw)), ((e 18), .inl (2, 12, .inr (.inl nm))), ((e 16), .inl (0, 320, .inl (upd (upd pf (16 * P.1) (nI (nxt bt n L t).2.2.2.1)) ((16 * P.1) + 1) (nI (18 - 15)))))]) [0] [1, 2, 3, 4] 0 dX13_readTold_220 zl_RX13_216 kX13_bad rfl rfl rfl rfl rfl (by decide) rfl rfl (show dd - 1 + 1 ≤ dd by omega) (Nat.zero_le _) (Nat.zero_le _) (Nat.le_of_ble_eq_true rfl) (s_mBad l (dd - 1) mo e g3 w3 n L (nxt bt n L (nxt bt n L (nxt bt n L t))) 2 hT3 (nxt_W (b := bt) (n := n) (L := L) (τ := (nxt bt n L (nxt bt n L t)))) hO_3) (fun r K1 hr => ?_)
                      rw [mBad_e (by first | (intro; rfl) | (intro h; unfold mKd at h; split at h <;> omega))] at hr
                      obtain ⟨rfl, rfl⟩ := hr
                      refine zs_K (K' := [(mo, .inr (11, fMo e (mFa g3 2 (nxt bt n L (nxt bt n L (nxt bt n L t)))) w3)), ((e 1), .inl (0, 740, .inl (nF bt))), ((e 14), .inl (0, 800, .inl nw)), ((e 18), .inl (2, 12, .inr (.inl nm))), ((e 16), .inl (0, 320, .inl (upd (upd pf (16 * P.1) (nI (nxt bt n L t).2.2.2.1)) ((16 * P.1) + 1) (nI (18 - 15)))))]) [4, 0, 1, 2, 3] rfl (by decide) ?_
                      have hTh : pThing bt n L D (nxt bt n L (nxt bt n L t)) (nxt bt n L t).2.2.2.1 (pWt P (nxt bt n L t).2.2.2.1) = (2, (nxt bt n L (nxt bt n L (nxt bt n L t))), (nxt bt n L t).2.2.2.1, (pWk (pWt P (nxt bt n L t).2.2.2.1) 3)) := by rw [pThing, if_neg hx15, if_neg hx16, if_pos hw, pAmP, if_pos ⟨hk3, hai⟩]
                      have e1 : (mTd bt n L D ee t tk P).1 = 2 ∧ (mTd bt n L D ee t tk P).2.1 = (nxt bt n L (nxt bt n L (nxt bt n L t))) := by rw [mTd_t h14 (by omega) hq2 hTh, if_pos (show ¬ (2 : Nat) = 0 by decide)]; exact ⟨rfl, rfl⟩
                      exact zs_zret dX13_readTold_223 rfl (Or.inl rfl) (Or.inr ⟨by rw [e1.1]; exact (show ¬ 2 = 0 by decide), rfl, mFa g3 2 (nxt bt n L (nxt bt n L (nxt bt n L t))), w3, (upd (upd pf (16 * P.1) (nI (nxt bt n L t).2.2.2.1)) ((16 * P.1) + 1) (nI (18 - 15))), mFr_fb fr3, by rw [e1.1]; rfl, by rw [e1.2]; rfl, rfl⟩)
                  · have c_75 : ¬ ((mKd n L (nxt bt n L (nxt bt n L (nxt bt n L t)))) = 3) := by have hc := c_75; rw [nI_eq' (by omega) (by omega)] at hc; exact hc
                    have hk3 : ¬ (nxt bt n L (nxt bt n L (nxt bt n L t))).1 = 3 := fun h => c_75 ((mKd_n (by decide)).mpr h)
                    refine zs_aload_n dX13_readTold_181 rfl rfl ?_
                    refine zs_iconst (v := nI 1) dX13_readTold_182 (by decide) ?_
                    refine zs_callV (M := mX13_bad) (As := [.int (nI 1)]) (st := []) (Kc := [(mo, .inr (11, fMo e g3 w3))]) (Kr := [((e 1), .inl (0, 740, .inl (nF bt))), ((e 14), .inl (0, 800, .inl nw)), ((e 18), .inl (2, 12, .inr (.inl nm))), ((e 16), .inl (0, 320, .inl (upd (upd pf (16 * P.1) (nI (nxt bt n L t).2.2.2.1)) ((16 * P.1) + 1) (nI (18 - 15)))))]) [0] [1, 2, 3, 4] 0 dX13_readTold_183 zl_RX13_216 kX13_bad rfl rfl rfl rfl rfl (by decide) rfl rfl (show dd - 1 + 1 ≤ dd by omega) (Nat.zero_le _) (Nat.zero_le _) (Nat.le_of_ble_eq_true rfl) (s_mBad l (dd - 1) mo e g3 w3 n L (nxt bt n L (nxt bt n L (nxt bt n L t))) 1 hT3 (nxt_W (b := bt) (n := n) (L := L) (τ := (nxt bt n L (nxt bt n L t)))) hO_3) (fun r K1 hr => ?_)
                    rw [mBad_e (by first | (intro; rfl) | (intro h; unfold mKd at h; split at h <;> omega))] at hr
                    obtain ⟨rfl, rfl⟩ := hr
                    refine zs_K (K' := [(mo, .inr (11, fMo e (mFa g3 1 (nxt bt n L (nxt bt n L (nxt bt n L t)))) w3)), ((e 1), .inl (0, 740, .inl (nF bt))), ((e 14), .inl (0, 800, .inl nw)), ((e 18), .inl (2, 12, .inr (.inl nm))), ((e 16), .inl (0, 320, .inl (upd (upd pf (16 * P.1) (nI (nxt bt n L t).2.2.2.1)) ((16 * P.1) + 1) (nI (18 - 15)))))]) [4, 0, 1, 2, 3] rfl (by decide) ?_
                    have ht1 : tNu (nxt bt n L (nxt bt n L (nxt bt n L t))) 0 2147483647 = 1 := by rw [tNu, if_neg hk3]
                    have hTh : pThing bt n L D (nxt bt n L (nxt bt n L t)) (nxt bt n L t).2.2.2.1 (pWt P (nxt bt n L t).2.2.2.1) = (1, (nxt bt n L (nxt bt n L (nxt bt n L t))), (nxt bt n L t).2.2.2.1, pWn (pWk (pWt P (nxt bt n L t).2.2.2.1) 3) (nxt bt n L t).2.2.2.1) := by rw [pThing, if_neg hx15, if_neg hx16, if_pos hw, pAmP, if_neg (fun h => hk3 h.1), if_neg (by rw [ht1]; decide), ht1]
                    have e1 : (mTd bt n L D ee t tk P).1 = 1 ∧ (mTd bt n L D ee t tk P).2.1 = (nxt bt n L (nxt bt n L (nxt bt n L t))) := by rw [mTd_t h14 (by omega) hq2 hTh, if_pos (show ¬ (1 : Nat) = 0 by decide)]; exact ⟨rfl, rfl⟩
                    exact zs_zret dX13_readTold_186 rfl (Or.inl rfl) (Or.inr ⟨by rw [e1.1]; exact (show ¬ 1 = 0 by decide), rfl, mFa g3 1 (nxt bt n L (nxt bt n L (nxt bt n L t))), w3, (upd (upd pf (16 * P.1) (nI (nxt bt n L t).2.2.2.1)) ((16 * P.1) + 1) (nI (18 - 15))), mFr_fb fr3, by rw [e1.1]; rfl, by rw [e1.2]; rfl, rfl⟩)
                · have hx18 : ¬ (nxt bt n L (nxt bt n L t)).2.2.2.2 = some 18 := of_decide_eq_false (bI_f c_70)
                  refine zs_iinc (v := (nI 19)) (lv' := [(2, .int (nI 19)), (1, .int (nI (16 * P.1))), (0, .ref mo)]) dX13_readTold_100 rfl (nI_add _ 1) (Nat.le_of_ble_eq_true rfl) rfl ?_
                  refine zs_goto (tgt := 86) dX13_readTold_103 (by decide) ?_
                  refine zs_iload_n dX13_readTold_86 rfl ?_
                  refine zs_bipush (v := nI 19) dX13_readTold_87 (by decide) ?_
                  refine zs_icmp_gt (tgt := 106) dX13_readTold_89 (by decide) (fun c_78 => (by first | exact absurd c_78 (by decide) | exact absurd (by decide) c_78 : False).elim) (fun c_78 => ?_)
                  refine zs_aload_n dX13_readTold_92 rfl rfl ?_
                  refine zs_iload_n dX13_readTold_93 rfl ?_
                  refine zs_callV (M := mX13_isWord) (As := [.int (nI 19)]) (st := []) (Kc := [(mo, .inr (11, fMo e g2 w2))]) (Kr := [((e 1), .inl (0, 740, .inl (nF bt))), ((e 14), .inl (0, 800, .inl nw)), ((e 18), .inl (2, 12, .inr (.inl nm))), ((e 16), .inl (0, 320, .inl (upd pf (16 * P.1) (nI (nxt bt n L t).2.2.2.1))))]) [0] [1, 2, 3, 4] 0 dX13_readTold_94 zl_RX13_264 kX13_isWord rfl rfl rfl rfl rfl (by decide) rfl rfl (show dd - 1 + 1 ≤ dd by omega) (Nat.zero_le _) (Nat.zero_le _) (Nat.le_of_ble_eq_true rfl) (s_mIsWord l (dd - 1) mo e g2 w2 n L (nxt bt n L (nxt bt n L t)) 19 (by omega) (by omega) hT2 (nxt_W (b := bt) (n := n) (L := L) (τ := (nxt bt n L t))) hO_2) (fun r K1 hr => ?_)
                  obtain ⟨rfl, rfl⟩ := hr
                  refine zs_K (K' := [(mo, .inr (11, fMo e g2 w2)), ((e 1), .inl (0, 740, .inl (nF bt))), ((e 14), .inl (0, 800, .inl nw)), ((e 18), .inl (2, 12, .inr (.inl nm))), ((e 16), .inl (0, 320, .inl (upd pf (16 * P.1) (nI (nxt bt n L t).2.2.2.1))))]) [4, 0, 1, 2, 3] rfl (by decide) ?_
                  refine zs_if_ne (tgt := 106) dX13_readTold_97 (by decide) (fun c_79 => ?_) (fun c_79 => ?_)
                  · have hw : (nxt bt n L (nxt bt n L t)).2.2.2.2 = some 19 := of_decide_eq_true (bI_t c_79)
                    have hk22 : (nxt bt n L (nxt bt n L t)).1 = 2 := hO_2.2.2.2.2.2.2.2.2 _ hw
                    refine zs_iload_n dX13_readTold_106 rfl ?_
                    refine zs_bipush (v := nI 19) dX13_readTold_107 (by decide) ?_
                    refine zs_icmp_le (tgt := 118) dX13_readTold_109 (by decide) (fun c_80 => ?_) (fun c_80 => (by first | exact absurd c_80 (by decide) | exact absurd (by decide) c_80 : False).elim)
                    refine zs_aload_n dX13_readTold_118 rfl rfl ?_
                    refine zs_get 0 dX13_readTold_119 zf_RX13_19 rfl (v := .ref (e 16)) rfl ?_
                    refine zs_iload_n dX13_readTold_122 rfl ?_
                    refine zs_iconst (v := nI 1) dX13_readTold_123 (by decide) ?_
                    refine zs_iadd dX13_readTold_124 ?_
                    refine zs_as (y := nI ((16 * P.1) + 1)) (nI_add _ _) ?_
                    refine zs_iload_n dX13_readTold_125 rfl ?_
                    refine zs_bipush (v := nI 15) dX13_readTold_126 (by decide) ?_
                    refine zs_isub dX13_readTold_128 ?_
                    refine zs_as (y := nI (19 - 15)) (nI_sub (by omega)) ?_
                    refine zs_iast 4 dX13_readTold_129 rfl (vp_in_nI (by omega) (by omega)) ?_
                    rw [nI_c (n := (16 * P.1) + 1) (by omega)]
                    show zS _ _ _ _ _ _ [(mo, .inr (11, fMo e g2 w2)), ((e 1), .inl (0, 740, .inl (nF bt))), ((e 14), .inl (0, 800, .inl nw)), ((e 18), .inl (2, 12, .inr (.inl nm))), ((e 16), .inl (0, 320, .inl (upd (upd pf (16 * P.1) (nI (nxt bt n L t).2.2.2.1)) ((16 * P.1) + 1) (nI (19 - 15)))))]
                    refine zs_aload_n dX13_readTold_130 rfl rfl ?_
                    refine zs_callV (M := mX13_go) (As := []) (st := []) (Kc := [(mo, .inr (11, fMo e g2 w2)), ((e 1), .inl (0, 740, .inl (nF bt)))]) (Kr := [((e 14), .inl (0, 800, .inl nw)), ((e 18), .inl (2, 12, .inr (.inl nm))), ((e 16), .inl (0, 320, .inl (upd (upd pf (16 * P.1) (nI (nxt bt n L t).2.2.2.1)) ((16 * P.1) + 1) (nI (19 - 15)))))]) [0, 1] [2, 3, 4] 0 dX13_readTold_131 zl_RX13_226 kX13_go rfl rfl rfl rfl rfl (by decide) rfl rfl (show dd - 1 + 1 ≤ dd by omega) (Nat.zero_le _) (Nat.zero_le _) (Nat.le_of_ble_eq_true rfl) (s_mGoT l (dd - 1) mo e g2 w2 n L bt (nxt bt n L (nxt bt n L t)) (by omega) hn hL hbt h3_2 h4_2 hT2 (nxt_W (b := bt) (n := n) (L := L) (τ := (nxt bt n L t))) (show ¬ (nxt bt n L (nxt bt n L t)).1 = 0 by omega)) (fun r K1 hr => ?_)
                    obtain ⟨rfl, g3, w3, hfr3, hT3, rfl⟩ := hr
                    refine zs_K (K' := [(mo, .inr (11, fMo e g3 w3)), ((e 1), .inl (0, 740, .inl (nF bt))), ((e 14), .inl (0, 800, .inl nw)), ((e 18), .inl (2, 12, .inr (.inl nm))), ((e 16), .inl (0, 320, .inl (upd (upd pf (16 * P.1) (nI (nxt bt n L t).2.2.2.1)) ((16 * P.1) + 1) (nI (19 - 15)))))]) [3, 4, 0, 1, 2] rfl (by decide) ?_
                    have fr3 : mFr [5, 6, 7, 8, 9, 13, 23, 84] g g3 := mFr_t (fr2 : mFr [5, 6, 7, 8, 9, 13, 23, 84] g g2) hfr3 (by decide) (by decide)
                    have h3_3 : g3 3 = nI n := (hfr3 3 (by decide)).trans h3_2
                    have h4_3 : g3 4 = nI L := (hfr3 4 (by decide)).trans h4_2
                    have h23_3 : g3 23 = g2 23 := hfr3 23 (by decide)
                    have hO_3 := nxt_OK (L := L) (τ := (nxt bt n L (nxt bt n L t))) hbt hn
                    have h14_3 := hO_3.1
                    have hkd_3 := mKd_4 (n := n) (L := L) hO_3.1
                    have h84_3 : g3 84 = nI P.1 := (hfr3 84 (by decide)).trans h84_2
                    refine zs_iload_n dX13_readTold_134 rfl ?_
                    refine zs_bipush (v := nI 15) dX13_readTold_135 (by decide) ?_
                    refine zs_icmp_eq (tgt := 146) dX13_readTold_137 (by decide) (fun c_81 => (by first | exact absurd c_81 (by decide) | exact absurd (by decide) c_81 : False).elim) (fun c_81 => ?_)
                    refine zs_iload_n dX13_readTold_140 rfl ?_
                    refine zs_bipush (v := nI 16) dX13_readTold_141 (by decide) ?_
                    refine zs_icmp_ne (tgt := 167) dX13_readTold_143 (by decide) (fun c_82 => ?_) (fun c_82 => (by first | exact absurd c_82 (by decide) | exact absurd (by decide) c_82 : False).elim)
                    refine zs_iload_n dX13_readTold_167 rfl ?_
                    refine zs_bipush (v := nI 17) dX13_readTold_168 (by decide) ?_
                    refine zs_icmp_eq (tgt := 240) dX13_readTold_170 (by decide) (fun c_83 => (by first | exact absurd c_83 (by decide) | exact absurd (by decide) c_83 : False).elim) (fun c_83 => ?_)
                    refine zs_aload_n dX13_readTold_173 rfl rfl ?_
                    refine zs_get 0 dX13_readTold_174 zf_RX13_170 rfl (v := .int (g3 7)) rfl ?_
                    refine zs_as (y := nI (mKd n L (nxt bt n L (nxt bt n L (nxt bt n L t))))) (mTk_7 hT3) ?_
                    refine zs_iconst (v := nI 3) dX13_readTold_177 (by decide) ?_
                    refine zs_icmp_eq (tgt := 187) dX13_readTold_178 (by decide) (fun c_84 => ?_) (fun c_84 => ?_)
                    · have c_84 : (mKd n L (nxt bt n L (nxt bt n L (nxt bt n L t)))) = 3 := by have hc := c_84; rw [nI_eq' (by omega) (by omega)] at hc; exact hc
                      have hk3 : (nxt bt n L (nxt bt n L (nxt bt n L t))).1 = 3 := (mKd_n (by decide)).mp c_84
                      have hv3 := hO_3.2.2.2.2.1 hk3
                      refine zs_iload_n dX13_readTold_187 rfl ?_
                      refine zs_bipush (v := nI 18) dX13_readTold_188 (by decide) ?_
                      refine zs_icmp_ne (tgt := 207) dX13_readTold_190 (by decide) (fun c_85 => ?_) (fun c_85 => (by first | exact absurd c_85 (by decide) | exact absurd (by decide) c_85 : False).elim)
                      refine zs_aload_n dX13_readTold_207 rfl rfl ?_
                      refine zs_get 0 dX13_readTold_208 zf_RX13_187 rfl (v := .int (g3 8)) rfl ?_
                      refine zs_as (y := nI (nxt bt n L (nxt bt n L (nxt bt n L t))).2.2.2.1) (hT3.2.2.1 hk3) ?_
                      refine zs_aload_n dX13_readTold_211 rfl rfl ?_
                      refine zs_callV (M := mX13_columns) (As := []) (st := [.int (nI (nxt bt n L (nxt bt n L (nxt bt n L t))).2.2.2.1)]) (Kc := [(mo, .inr (11, fMo e g3 w3)), ((e 14), .inl (0, 800, .inl nw))]) (Kr := [((e 1), .inl (0, 740, .inl (nF bt))), ((e 18), .inl (2, 12, .inr (.inl nm))), ((e 16), .inl (0, 320, .inl (upd (upd pf (16 * P.1) (nI (nxt bt n L t).2.2.2.1)) ((16 * P.1) + 1) (nI (19 - 15)))))]) [0, 2] [1, 3, 4] 0 dX13_readTold_212 zl_RX13_298 kX13_columns rfl rfl rfl rfl rfl (by decide) rfl rfl (show dd - 1 + 1 ≤ dd by omega) (Nat.zero_le _) (Nat.zero_le _) (Nat.le_of_ble_eq_true rfl) (s_mCols l (dd - 1) mo e g3 w3 nw D hy.1) (fun r K1 hr => ?_)
                      obtain ⟨rfl, rfl⟩ := hr
                      refine zs_K (K' := [(mo, .inr (11, fMo e g3 w3)), ((e 1), .inl (0, 740, .inl (nF bt))), ((e 14), .inl (0, 800, .inl nw)), ((e 18), .inl (2, 12, .inr (.inl nm))), ((e 16), .inl (0, 320, .inl (upd (upd pf (16 * P.1) (nI (nxt bt n L t).2.2.2.1)) ((16 * P.1) + 1) (nI (19 - 15)))))]) [3, 0, 4, 1, 2] rfl (by decide) ?_
                      refine zs_icmp_lt (tgt := 224) dX13_readTold_215 (by decide) (fun c_86 => ?_) (fun c_86 => ?_)
                      · have c_86 : ((nxt bt n L (nxt bt n L (nxt bt n L t))).2.2.2.1) < (D.1 14) := by have hc := c_86; rw [nI_lt' (by omega) (by omega)] at hc; exact hc
                        refine zs_aload_n dX13_readTold_224 rfl rfl ?_
                        refine zs_get 0 dX13_readTold_225 zf_RX13_19 rfl (v := .ref (e 16)) rfl ?_
                        refine zs_iload_n dX13_readTold_228 rfl ?_
                        refine zs_iconst (v := nI 2) dX13_readTold_229 (by decide) ?_
                        refine zs_iadd dX13_readTold_230 ?_
                        refine zs_as (y := nI ((16 * P.1) + 2)) (nI_add _ _) ?_
                        refine zs_aload_n dX13_readTold_231 rfl rfl ?_
                        refine zs_get 0 dX13_readTold_232 zf_RX13_187 rfl (v := .int (g3 8)) rfl ?_
                        refine zs_as (y := nI (nxt bt n L (nxt bt n L (nxt bt n L t))).2.2.2.1) (hT3.2.2.1 hk3) ?_
                        refine zs_iast 4 dX13_readTold_235 rfl (vp_in_nI (by omega) (by omega)) ?_
                        rw [nI_c (n := (16 * P.1) + 2) (by omega)]
                        show zS _ _ _ _ _ _ [(mo, .inr (11, fMo e g3 w3)), ((e 1), .inl (0, 740, .inl (nF bt))), ((e 14), .inl (0, 800, .inl nw)), ((e 18), .inl (2, 12, .inr (.inl nm))), ((e 16), .inl (0, 320, .inl (upd (upd (upd pf (16 * P.1) (nI (nxt bt n L t).2.2.2.1)) ((16 * P.1) + 1) (nI (19 - 15))) ((16 * P.1) + 2) (nI (nxt bt n L (nxt bt n L (nxt bt n L t))).2.2.2.1))))]
                        refine zs_aload_n dX13_readTold_236 rfl rfl ?_
                        refine zs_callV (M := mX13_go) (As := []) (st := []) (Kc := [(mo, .inr (11, fMo e g3 w3)), ((e 1), .inl (0, 740, .inl (nF bt)))]) (Kr := [((e 14), .inl (0, 800, .inl nw)), ((e 18), .inl (2, 12, .inr (.inl nm))), ((e 16), .inl (0, 320, .inl (upd (upd (upd pf (16 * P.1) (nI (nxt bt n L t).2.2.2.1)) ((16 * P.1) + 1) (nI (19 - 15))) ((16 * P.1) + 2) (nI (nxt bt n L (nxt bt n L (nxt bt n L t))).2.2.2.1))))]) [0, 1] [2, 3, 4] 0 dX13_readTold_237 zl_RX13_226 kX13_go rfl rfl rfl rfl rfl (by decide) rfl rfl (show dd - 1 + 1 ≤ dd by omega) (Nat.zero_le _) (Nat.zero_le _) (Nat.le_of_ble_eq_true rfl) (s_mGoT l (dd - 1) mo e g3 w3 n L bt (nxt bt n L (nxt bt n L (nxt bt n L t))) (by omega) hn hL hbt h3_3 h4_3 hT3 (nxt_W (b := bt) (n := n) (L := L) (τ := (nxt bt n L (nxt bt n L t)))) (show ¬ (nxt bt n L (nxt bt n L (nxt bt n L t))).1 = 0 by omega)) (fun r K1 hr => ?_)
                        obtain ⟨rfl, g4, w4, hfr4, hT4, rfl⟩ := hr
                        refine zs_K (K' := [(mo, .inr (11, fMo e g4 w4)), ((e 1), .inl (0, 740, .inl (nF bt))), ((e 14), .inl (0, 800, .inl nw)), ((e 18), .inl (2, 12, .inr (.inl nm))), ((e 16), .inl (0, 320, .inl (upd (upd (upd pf (16 * P.1) (nI (nxt bt n L t).2.2.2.1)) ((16 * P.1) + 1) (nI (19 - 15))) ((16 * P.1) + 2) (nI (nxt bt n L (nxt bt n L (nxt bt n L t))).2.2.2.1))))]) [3, 4, 0, 1, 2] rfl (by decide) ?_
                        have fr4 : mFr [5, 6, 7, 8, 9, 13, 23, 84] g g4 := mFr_t (fr3 : mFr [5, 6, 7, 8, 9, 13, 23, 84] g g3) hfr4 (by decide) (by decide)
                        have h3_4 : g4 3 = nI n := (hfr4 3 (by decide)).trans h3_3
                        have h4_4 : g4 4 = nI L := (hfr4 4 (by decide)).trans h4_3
                        have h23_4 : g4 23 = g3 23 := hfr4 23 (by decide)
                        have hO_4 := nxt_OK (L := L) (τ := (nxt bt n L (nxt bt n L (nxt bt n L t)))) hbt hn
                        have h14_4 := hO_4.1
                        have hkd_4 := mKd_4 (n := n) (L := L) hO_4.1
                        have h84_4 : g4 84 = nI P.1 := (hfr4 84 (by decide)).trans h84_3
                        refine zs_aload_n dX13_readTold_240 rfl rfl ?_
                        refine zs_dup dX13_readTold_241 rfl ?_
                        refine zs_get 0 dX13_readTold_242 zf_RX13_491 rfl (v := .int (g4 84)) rfl ?_
                        refine zs_as (y := nI P.1) h84_4 ?_
                        refine zs_iconst (v := nI 1) dX13_readTold_245 (by decide) ?_
                        refine zs_iadd dX13_readTold_246 ?_
                        refine zs_as (y := nI (P.1 + 1)) (nI_add _ _) ?_
                        refine zs_put 0 dX13_readTold_247 zf_RX13_491 rfl (Nat.le_of_ble_eq_true rfl) (zPv_i _) ?_
                        show zS _ _ _ _ _ _ [(mo, .inr (11, fMo e (upd g4 84 (nI (P.1 + 1))) w4)), ((e 1), .inl (0, 740, .inl (nF bt))), ((e 14), .inl (0, 800, .inl nw)), ((e 18), .inl (2, 12, .inr (.inl nm))), ((e 16), .inl (0, 320, .inl (upd (upd (upd pf (16 * P.1) (nI (nxt bt n L t).2.2.2.1)) ((16 * P.1) + 1) (nI (19 - 15))) ((16 * P.1) + 2) (nI (nxt bt n L (nxt bt n L (nxt bt n L t))).2.2.2.1))))]
                        refine zs_aload_n dX13_readTold_250 rfl rfl ?_
                        refine zs_callV (M := mX13_readEnd) (As := []) (st := []) (Kc := [(mo, .inr (11, fMo e (upd g4 84 (nI (P.1 + 1))) w4)), ((e 1), .inl (0, 740, .inl (nF bt)))]) (Kr := [((e 14), .inl (0, 800, .inl nw)), ((e 18), .inl (2, 12, .inr (.inl nm))), ((e 16), .inl (0, 320, .inl (upd (upd (upd pf (16 * P.1) (nI (nxt bt n L t).2.2.2.1)) ((16 * P.1) + 1) (nI (19 - 15))) ((16 * P.1) + 2) (nI (nxt bt n L (nxt bt n L (nxt bt n L t))).2.2.2.1))))]) [0, 1] [2, 3, 4] 0 dX13_readTold_251 zl_RX13_279 kX13_readEnd rfl rfl rfl rfl rfl (by decide) rfl rfl (show dd - 1 + 1 ≤ dd by omega) (Nat.zero_le _) (Nat.zero_le _) (Nat.le_of_ble_eq_true rfl) (s_mReadEnd l (dd - 1) mo e (upd g4 84 (nI (P.1 + 1))) w4 n L bt (nxt bt n L (nxt bt n L (nxt bt n L (nxt bt n L t)))) (by omega) hn hL hbt h3_4 h4_4 (mTk_f hT4 rfl rfl rfl rfl rfl) (nxt_W (b := bt) (n := n) (L := L) (τ := (nxt bt n L (nxt bt n L (nxt bt n L t))))) hO_4) (fun r K1 hr => ?_)
                        rcases hr with ⟨h59, rfl, ge, we, hfre, hTe, rfl⟩ | ⟨h59, rfl, rfl⟩
                        · refine zs_K (K' := [(mo, .inr (11, fMo e ge we)), ((e 1), .inl (0, 740, .inl (nF bt))), ((e 14), .inl (0, 800, .inl nw)), ((e 18), .inl (2, 12, .inr (.inl nm))), ((e 16), .inl (0, 320, .inl (upd (upd (upd pf (16 * P.1) (nI (nxt bt n L t).2.2.2.1)) ((16 * P.1) + 1) (nI (19 - 15))) ((16 * P.1) + 2) (nI (nxt bt n L (nxt bt n L (nxt bt n L t))).2.2.2.1))))]) [3, 4, 0, 1, 2] rfl (by decide) ?_
                          have ht1 : tNuC (nxt bt n L (nxt bt n L (nxt bt n L t))) (D.1 14) = 0 := by rw [tNuC, if_pos hk3, if_neg (by omega)]
                          have hTh : pThing bt n L D (nxt bt n L (nxt bt n L t)) (nxt bt n L t).2.2.2.1 (pWt P (nxt bt n L t).2.2.2.1) = (0, (nxt bt n L (nxt bt n L (nxt bt n L (nxt bt n L t)))), (nxt bt n L (nxt bt n L (nxt bt n L t))).2.2.2.1, pWn (pWk (pWt P (nxt bt n L t).2.2.2.1) 4) (nxt bt n L (nxt bt n L (nxt bt n L t))).2.2.2.1) := by rw [pThing, if_neg hx15, if_neg hx16, if_neg hx18, if_pos hw, pGive, if_pos ht1]
                          have er : (mTd bt n L D ee t tk P) = (0, nxt bt n L (nxt bt n L (nxt bt n L (nxt bt n L (nxt bt n L t)))), (nxt bt n L (nxt bt n L (nxt bt n L t))).2.2.2.1, (P.1 + 1, (pWn (pWk (pWt P (nxt bt n L t).2.2.2.1) 4) (nxt bt n L (nxt bt n L (nxt bt n L t))).2.2.2.1).2)) := by rw [mTd_t h14 (by omega) hq2 hTh, if_neg (fun h => h rfl), if_pos h59]
                          exact zs_zret dX13_readTold_254 rfl (Or.inr rfl) (Or.inl ⟨by rw [er], rfl, ge, we, (upd (upd (upd pf (16 * P.1) (nI (nxt bt n L t).2.2.2.1)) ((16 * P.1) + 1) (nI (19 - 15))) ((16 * P.1) + 2) (nI (nxt bt n L (nxt bt n L (nxt bt n L t))).2.2.2.1)), mFr_t (mFr_u fr4 (by decide) : mFr [5, 6, 7, 8, 9, 13, 23, 84] g (upd g4 84 (nI (P.1 + 1)))) hfre (by decide) (by decide), by rw [er]; exact hTe, by rw [er]; exact nxt_W, by rw [er]; exact nxt_OK hbt hn, (hfre 84 (by decide)).trans rfl, by rw [er], by rw [er]; exact pRk_3 (Q := (pWk (pWt P (nxt bt n L t).2.2.2.1) 4)) (hP12_k hP12) (by show 2 < un P.2.2.1 P.1 4 P.1; rw [un_s]; decide) (pRk_0 hP12 hR), rfl⟩)
                        · refine zs_K (K' := [(mo, .inr (11, fMo e (mFa (upd g4 84 (nI (P.1 + 1))) 1 (nxt bt n L (nxt bt n L (nxt bt n L (nxt bt n L t))))) w4)), ((e 1), .inl (0, 740, .inl (nF bt))), ((e 14), .inl (0, 800, .inl nw)), ((e 18), .inl (2, 12, .inr (.inl nm))), ((e 16), .inl (0, 320, .inl (upd (upd (upd pf (16 * P.1) (nI (nxt bt n L t).2.2.2.1)) ((16 * P.1) + 1) (nI (19 - 15))) ((16 * P.1) + 2) (nI (nxt bt n L (nxt bt n L (nxt bt n L t))).2.2.2.1))))]) [3, 4, 0, 1, 2] rfl (by decide) ?_
                          have ht1 : tNuC (nxt bt n L (nxt bt n L (nxt bt n L t))) (D.1 14) = 0 := by rw [tNuC, if_pos hk3, if_neg (by omega)]
                          have hTh : pThing bt n L D (nxt bt n L (nxt bt n L t)) (nxt bt n L t).2.2.2.1 (pWt P (nxt bt n L t).2.2.2.1) = (0, (nxt bt n L (nxt bt n L (nxt bt n L (nxt bt n L t)))), (nxt bt n L (nxt bt n L (nxt bt n L t))).2.2.2.1, pWn (pWk (pWt P (nxt bt n L t).2.2.2.1) 4) (nxt bt n L (nxt bt n L (nxt bt n L t))).2.2.2.1) := by rw [pThing, if_neg hx15, if_neg hx16, if_neg hx18, if_pos hw, pGive, if_pos ht1]
                          have er : (mTd bt n L D ee t tk P) = (1, (nxt bt n L (nxt bt n L (nxt bt n L (nxt bt n L t)))), (nxt bt n L (nxt bt n L (nxt bt n L t))).2.2.2.1, (pWn (pWk (pWt P (nxt bt n L t).2.2.2.1) 4) (nxt bt n L (nxt bt n L (nxt bt n L t))).2.2.2.1)) := by rw [mTd_t h14 (by omega) hq2 hTh, if_neg (fun h => h rfl), if_neg (by rw [h59]; decide)]
                          exact zs_zret dX13_readTold_254 rfl (Or.inl rfl) (Or.inr ⟨by rw [er]; exact (show ¬ (1 : Nat) = 0 by decide), rfl, mFa (upd g4 84 (nI (P.1 + 1))) 1 (nxt bt n L (nxt bt n L (nxt bt n L (nxt bt n L t)))), w4, (upd (upd (upd pf (16 * P.1) (nI (nxt bt n L t).2.2.2.1)) ((16 * P.1) + 1) (nI (19 - 15))) ((16 * P.1) + 2) (nI (nxt bt n L (nxt bt n L (nxt bt n L t))).2.2.2.1)), mFr_fb (mFr_u fr4 (by decide)), by rw [er]; rfl, by rw [er]; rfl, rfl⟩)
                      · have c_86 : ¬ (((nxt bt n L (nxt bt n L (nxt bt n L t))).2.2.2.1) < (D.1 14)) := by have hc := c_86; rw [nI_lt' (by omega) (by omega)] at hc; exact hc
                        refine zs_aload_n dX13_readTold_218 rfl rfl ?_
                        refine zs_iconst (v := nI 2) dX13_readTold_219 (by decide) ?_
                        refine zs_callV (M := mX13_bad) (As := [.int (nI 2)]) (st := []) (Kc := [(mo, .inr (11, fMo e g3 w3))]) (Kr := [((e 1), .inl (0, 740, .inl (nF bt))), ((e 14), .inl (0, 800, .inl nw)), ((e 18), .inl (2, 12, .inr (.inl nm))), ((e 16), .inl (0, 320, .inl (upd (upd pf (16 * P.1) (nI (nxt bt n L t).2.2.2.1)) ((16 * P.1) + 1) (nI (19 - 15)))))]) [0] [1, 2, 3, 4] 0 dX13_readTold_220 zl_RX13_216 kX13_bad rfl rfl rfl rfl rfl (by decide) rfl rfl (show dd - 1 + 1 ≤ dd by omega) (Nat.zero_le _) (Nat.zero_le _) (Nat.le_of_ble_eq_true rfl) (s_mBad l (dd - 1) mo e g3 w3 n L (nxt bt n L (nxt bt n L (nxt bt n L t))) 2 hT3 (nxt_W (b := bt) (n := n) (L := L) (τ := (nxt bt n L (nxt bt n L t)))) hO_3) (fun r K1 hr => ?_)
                        rw [mBad_e (by first | (intro; rfl) | (intro h; unfold mKd at h; split at h <;> omega))] at hr
                        obtain ⟨rfl, rfl⟩ := hr
                        refine zs_K (K' := [(mo, .inr (11, fMo e (mFa g3 2 (nxt bt n L (nxt bt n L (nxt bt n L t)))) w3)), ((e 1), .inl (0, 740, .inl (nF bt))), ((e 14), .inl (0, 800, .inl nw)), ((e 18), .inl (2, 12, .inr (.inl nm))), ((e 16), .inl (0, 320, .inl (upd (upd pf (16 * P.1) (nI (nxt bt n L t).2.2.2.1)) ((16 * P.1) + 1) (nI (19 - 15)))))]) [4, 0, 1, 2, 3] rfl (by decide) ?_
                        have ht1 : tNuC (nxt bt n L (nxt bt n L (nxt bt n L t))) (D.1 14) = 2 := by rw [tNuC, if_pos hk3, if_pos (by omega)]
                        have hTh : pThing bt n L D (nxt bt n L (nxt bt n L t)) (nxt bt n L t).2.2.2.1 (pWt P (nxt bt n L t).2.2.2.1) = (2, (nxt bt n L (nxt bt n L (nxt bt n L t))), (nxt bt n L t).2.2.2.1, pWn (pWk (pWt P (nxt bt n L t).2.2.2.1) 4) (nxt bt n L t).2.2.2.1) := by rw [pThing, if_neg hx15, if_neg hx16, if_neg hx18, if_pos hw, pGive, if_neg (by rw [ht1]; decide), ht1]
                        have e1 : (mTd bt n L D ee t tk P).1 = 2 ∧ (mTd bt n L D ee t tk P).2.1 = (nxt bt n L (nxt bt n L (nxt bt n L t))) := by rw [mTd_t h14 (by omega) hq2 hTh, if_pos (show ¬ (2 : Nat) = 0 by decide)]; exact ⟨rfl, rfl⟩
                        exact zs_zret dX13_readTold_223 rfl (Or.inl rfl) (Or.inr ⟨by rw [e1.1]; exact (show ¬ 2 = 0 by decide), rfl, mFa g3 2 (nxt bt n L (nxt bt n L (nxt bt n L t))), w3, (upd (upd pf (16 * P.1) (nI (nxt bt n L t).2.2.2.1)) ((16 * P.1) + 1) (nI (19 - 15))), mFr_fb fr3, by rw [e1.1]; rfl, by rw [e1.2]; rfl, rfl⟩)
                    · have c_84 : ¬ ((mKd n L (nxt bt n L (nxt bt n L (nxt bt n L t)))) = 3) := by have hc := c_84; rw [nI_eq' (by omega) (by omega)] at hc; exact hc
                      have hk3 : ¬ (nxt bt n L (nxt bt n L (nxt bt n L t))).1 = 3 := fun h => c_84 ((mKd_n (by decide)).mpr h)
                      refine zs_aload_n dX13_readTold_181 rfl rfl ?_
                      refine zs_iconst (v := nI 1) dX13_readTold_182 (by decide) ?_
                      refine zs_callV (M := mX13_bad) (As := [.int (nI 1)]) (st := []) (Kc := [(mo, .inr (11, fMo e g3 w3))]) (Kr := [((e 1), .inl (0, 740, .inl (nF bt))), ((e 14), .inl (0, 800, .inl nw)), ((e 18), .inl (2, 12, .inr (.inl nm))), ((e 16), .inl (0, 320, .inl (upd (upd pf (16 * P.1) (nI (nxt bt n L t).2.2.2.1)) ((16 * P.1) + 1) (nI (19 - 15)))))]) [0] [1, 2, 3, 4] 0 dX13_readTold_183 zl_RX13_216 kX13_bad rfl rfl rfl rfl rfl (by decide) rfl rfl (show dd - 1 + 1 ≤ dd by omega) (Nat.zero_le _) (Nat.zero_le _) (Nat.le_of_ble_eq_true rfl) (s_mBad l (dd - 1) mo e g3 w3 n L (nxt bt n L (nxt bt n L (nxt bt n L t))) 1 hT3 (nxt_W (b := bt) (n := n) (L := L) (τ := (nxt bt n L (nxt bt n L t)))) hO_3) (fun r K1 hr => ?_)
                      rw [mBad_e (by first | (intro; rfl) | (intro h; unfold mKd at h; split at h <;> omega))] at hr
                      obtain ⟨rfl, rfl⟩ := hr
                      refine zs_K (K' := [(mo, .inr (11, fMo e (mFa g3 1 (nxt bt n L (nxt bt n L (nxt bt n L t)))) w3)), ((e 1), .inl (0, 740, .inl (nF bt))), ((e 14), .inl (0, 800, .inl nw)), ((e 18), .inl (2, 12, .inr (.inl nm))), ((e 16), .inl (0, 320, .inl (upd (upd pf (16 * P.1) (nI (nxt bt n L t).2.2.2.1)) ((16 * P.1) + 1) (nI (19 - 15)))))]) [4, 0, 1, 2, 3] rfl (by decide) ?_
                      have ht1 : tNuC (nxt bt n L (nxt bt n L (nxt bt n L t))) (D.1 14) = 1 := by rw [tNuC, if_neg hk3]
                      have hTh : pThing bt n L D (nxt bt n L (nxt bt n L t)) (nxt bt n L t).2.2.2.1 (pWt P (nxt bt n L t).2.2.2.1) = (1, (nxt bt n L (nxt bt n L (nxt bt n L t))), (nxt bt n L t).2.2.2.1, pWn (pWk (pWt P (nxt bt n L t).2.2.2.1) 4) (nxt bt n L t).2.2.2.1) := by rw [pThing, if_neg hx15, if_neg hx16, if_neg hx18, if_pos hw, pGive, if_neg (by rw [ht1]; decide), ht1]
                      have e1 : (mTd bt n L D ee t tk P).1 = 1 ∧ (mTd bt n L D ee t tk P).2.1 = (nxt bt n L (nxt bt n L (nxt bt n L t))) := by rw [mTd_t h14 (by omega) hq2 hTh, if_pos (show ¬ (1 : Nat) = 0 by decide)]; exact ⟨rfl, rfl⟩
                      exact zs_zret dX13_readTold_186 rfl (Or.inl rfl) (Or.inr ⟨by rw [e1.1]; exact (show ¬ 1 = 0 by decide), rfl, mFa g3 1 (nxt bt n L (nxt bt n L (nxt bt n L t))), w3, (upd (upd pf (16 * P.1) (nI (nxt bt n L t).2.2.2.1)) ((16 * P.1) + 1) (nI (19 - 15))), mFr_fb fr3, by rw [e1.1]; rfl, by rw [e1.2]; rfl, rfl⟩)
                  · have hx19 : ¬ (nxt bt n L (nxt bt n L t)).2.2.2.2 = some 19 := of_decide_eq_false (bI_f c_79)
                    refine zs_iinc (v := (nI 20)) (lv' := [(2, .int (nI 20)), (1, .int (nI (16 * P.1))), (0, .ref mo)]) dX13_readTold_100 rfl (nI_add _ 1) (Nat.le_of_ble_eq_true rfl) rfl ?_
                    refine zs_goto (tgt := 86) dX13_readTold_103 (by decide) ?_
                    refine zs_iload_n dX13_readTold_86 rfl ?_
                    refine zs_bipush (v := nI 19) dX13_readTold_87 (by decide) ?_
                    refine zs_icmp_gt (tgt := 106) dX13_readTold_89 (by decide) (fun c_87 => ?_) (fun c_87 => (by first | exact absurd c_87 (by decide) | exact absurd (by decide) c_87 : False).elim)
                    refine zs_iload_n dX13_readTold_106 rfl ?_
                    refine zs_bipush (v := nI 19) dX13_readTold_107 (by decide) ?_
                    refine zs_icmp_le (tgt := 118) dX13_readTold_109 (by decide) (fun c_88 => (by first | exact absurd c_88 (by decide) | exact absurd (by decide) c_88 : False).elim) (fun c_88 => ?_)
                    refine zs_aload_n dX13_readTold_112 rfl rfl ?_
                    refine zs_iconst (v := nI 1) dX13_readTold_113 (by decide) ?_
                    refine zs_callV (M := mX13_bad) (As := [.int (nI 1)]) (st := []) (Kc := [(mo, .inr (11, fMo e g2 w2))]) (Kr := [((e 1), .inl (0, 740, .inl (nF bt))), ((e 14), .inl (0, 800, .inl nw)), ((e 18), .inl (2, 12, .inr (.inl nm))), ((e 16), .inl (0, 320, .inl (upd pf (16 * P.1) (nI (nxt bt n L t).2.2.2.1))))]) [0] [1, 2, 3, 4] 0 dX13_readTold_114 zl_RX13_216 kX13_bad rfl rfl rfl rfl rfl (by decide) rfl rfl (show dd - 1 + 1 ≤ dd by omega) (Nat.zero_le _) (Nat.zero_le _) (Nat.le_of_ble_eq_true rfl) (s_mBad l (dd - 1) mo e g2 w2 n L (nxt bt n L (nxt bt n L t)) 1 hT2 (nxt_W (b := bt) (n := n) (L := L) (τ := (nxt bt n L t))) hO_2) (fun r K1 hr => ?_)
                    rw [mBad_e (by first | (intro; rfl) | (intro h; unfold mKd at h; split at h <;> omega))] at hr
                    obtain ⟨rfl, rfl⟩ := hr
                    refine zs_K (K' := [(mo, .inr (11, fMo e (mFa g2 1 (nxt bt n L (nxt bt n L t))) w2)), ((e 1), .inl (0, 740, .inl (nF bt))), ((e 14), .inl (0, 800, .inl nw)), ((e 18), .inl (2, 12, .inr (.inl nm))), ((e 16), .inl (0, 320, .inl (upd pf (16 * P.1) (nI (nxt bt n L t).2.2.2.1))))]) [4, 0, 1, 2, 3] rfl (by decide) ?_
                    have hTh : pThing bt n L D (nxt bt n L (nxt bt n L t)) (nxt bt n L t).2.2.2.1 (pWt P (nxt bt n L t).2.2.2.1) = (1, (nxt bt n L (nxt bt n L t)), (nxt bt n L t).2.2.2.1, pWt P (nxt bt n L t).2.2.2.1) := by rw [pThing, if_neg hx15, if_neg hx16, if_neg hx18, if_neg hx19, if_neg hx17]
                    have e1 : (mTd bt n L D ee t tk P).1 = 1 ∧ (mTd bt n L D ee t tk P).2.1 = (nxt bt n L (nxt bt n L t)) := by rw [mTd_t h14 (by omega) hq2 hTh, if_pos (show ¬ (1 : Nat) = 0 by decide)]; exact ⟨rfl, rfl⟩
                    exact zs_zret dX13_readTold_117 rfl (Or.inl rfl) (Or.inr ⟨by rw [e1.1]; exact (show ¬ 1 = 0 by decide), rfl, mFa g2 1 (nxt bt n L (nxt bt n L t)), w2, (upd pf (16 * P.1) (nI (nxt bt n L t).2.2.2.1)), mFr_fb fr2, by rw [e1.1]; rfl, by rw [e1.2]; rfl, rfl⟩)
        · refine zs_K (K' := [(mo, .inr (11, fMo e (mFa g1 (tNu (nxt bt n L t) ee 59) (nxt bt n L t)) w1)), ((e 1), .inl (0, 740, .inl (nF bt))), ((e 14), .inl (0, 800, .inl nw)), ((e 18), .inl (2, 12, .inr (.inl nm))), ((e 16), .inl (0, 320, .inl pf))]) [3, 4, 0, 1, 2] rfl (by decide) ?_
          refine zs_if_ne (tgt := 73) dX13_readTold_68 (by decide) (fun c_89 => (by first | exact absurd c_89 (by decide) | exact absurd (by decide) c_89 : False).elim) (fun c_89 => ?_)
          refine zs_iconst (v := nI 0) dX13_readTold_71 (by decide) ?_
          have e1 : (mTd bt n L D ee t tk P).1 = (tNu (nxt bt n L t) ee 59) ∧ (mTd bt n L D ee t tk P).2.1 = (nxt bt n L t) := by rw [mTd_n h14 (by omega) hq2]; exact ⟨rfl, rfl⟩
          exact zs_zret dX13_readTold_72 rfl (Or.inl rfl) (Or.inr ⟨by rw [e1.1]; exact hq2, rfl, mFa g1 (tNu (nxt bt n L t) ee 59) (nxt bt n L t), w1, pf, mFr_fb fr1, by rw [e1.1]; rfl, by rw [e1.2]; rfl, rfl⟩)
    · have c_2 : P.1 = 20 := by have hc := c_2; rw [nI_eq' (by omega) (by omega)] at hc; exact hc
      refine zs_aload_n dX13_readTold_24 rfl rfl ?_
      refine zs_iconst (v := nI 4) dX13_readTold_25 (by decide) ?_
      refine zs_callV (M := mX13_bad) (As := [.int (nI 4)]) (st := []) (Kc := [(mo, .inr (11, fMo e g w))]) (Kr := [((e 1), .inl (0, 740, .inl (nF bt))), ((e 14), .inl (0, 800, .inl nw)), ((e 18), .inl (2, 12, .inr (.inl nm))), ((e 16), .inl (0, 320, .inl pf))]) [0] [1, 2, 3, 4] 0 dX13_readTold_26 zl_RX13_216 kX13_bad rfl rfl rfl rfl rfl (by decide) rfl rfl (show dd - 1 + 1 ≤ dd by omega) (Nat.zero_le _) (Nat.zero_le _) (Nat.le_of_ble_eq_true rfl) (s_mBad l (dd - 1) mo e g w n L t 4 hT hW hO) (fun r K1 hr => ?_)
      rw [mBad_e (by first | (intro; rfl) | (intro h; unfold mKd at h; split at h <;> omega))] at hr
      obtain ⟨rfl, rfl⟩ := hr
      refine zs_K (K' := [(mo, .inr (11, fMo e (mFa g 4 t) w)), ((e 1), .inl (0, 740, .inl (nF bt))), ((e 14), .inl (0, 800, .inl nw)), ((e 18), .inl (2, 12, .inr (.inl nm))), ((e 16), .inl (0, 320, .inl pf))]) [4, 0, 1, 2, 3] rfl (by decide) ?_
      have e1 : (mTd bt n L D ee t tk P).1 = 4 ∧ (mTd bt n L D ee t tk P).2.1 = t := by rw [mTd_4 h14 (by omega)]; exact ⟨rfl, rfl⟩
      exact zs_zret dX13_readTold_29 rfl (Or.inl rfl) (Or.inr ⟨by rw [e1.1]; exact (show ¬ 4 = 0 by decide), rfl, mFa g 4 t, w, pf, mFr_fb mFr_r, by rw [e1.1]; rfl, by rw [e1.2]; rfl, rfl⟩)
  · have h14n : ¬ t.2.2.2.2 = some 14 := of_decide_eq_false (bI_f c_1)
    refine zs_aload_n dX13_readTold_9 rfl rfl ?_
    refine zs_iconst (v := nI 1) dX13_readTold_10 (by decide) ?_
    refine zs_callV (M := mX13_bad) (As := [.int (nI 1)]) (st := []) (Kc := [(mo, .inr (11, fMo e g w))]) (Kr := [((e 1), .inl (0, 740, .inl (nF bt))), ((e 14), .inl (0, 800, .inl nw)), ((e 18), .inl (2, 12, .inr (.inl nm))), ((e 16), .inl (0, 320, .inl pf))]) [0] [1, 2, 3, 4] 0 dX13_readTold_11 zl_RX13_216 kX13_bad rfl rfl rfl rfl rfl (by decide) rfl rfl (show dd - 1 + 1 ≤ dd by omega) (Nat.zero_le _) (Nat.zero_le _) (Nat.le_of_ble_eq_true rfl) (s_mBad l (dd - 1) mo e g w n L t 1 hT hW hO) (fun r K1 hr => ?_)
    rw [mBad_e (by first | (intro; rfl) | (intro h; unfold mKd at h; split at h <;> omega))] at hr
    obtain ⟨rfl, rfl⟩ := hr
    refine zs_K (K' := [(mo, .inr (11, fMo e (mFa g 1 t) w)), ((e 1), .inl (0, 740, .inl (nF bt))), ((e 14), .inl (0, 800, .inl nw)), ((e 18), .inl (2, 12, .inr (.inl nm))), ((e 16), .inl (0, 320, .inl pf))]) [4, 0, 1, 2, 3] rfl (by decide) ?_
    have e1 : (mTd bt n L D ee t tk P).1 = 1 ∧ (mTd bt n L D ee t tk P).2.1 = t := by rw [mTd_1 h14n]; exact ⟨rfl, rfl⟩
    exact zs_zret dX13_readTold_14 rfl (Or.inl rfl) (Or.inr ⟨by rw [e1.1]; exact (show ¬ 1 = 0 by decide), rfl, mFa g 1 t, w, pf, mFr_fb mFr_r, by rw [e1.1]; rfl, by rw [e1.2]; rfl, rfl⟩)
