/-! ===== the reference: plan() ===== -/
theorem mTd_F {b : Nat → Nat} {n L e : Nat} {D : zYd} {τ : zTk} {tk : Nat} {P : zPl} (hb : ∀ j, b j < 256) (hn : n ≤ 740) (hD : yI D) (hF : pFit D P) (h : (mTd b n L D e τ tk P).1 = 0) : pFit D (mTd b n L D e τ tk P).2.2.2 ∧ (mTd b n L D e τ tk P).2.2.1 ≤ 99999999 ∧ (mTd b n L D e τ tk P).2.2.2.1 = P.1 + 1 ∧ (mTd b n L D e τ tk P).2.2.2.2.1 P.1 = (nxt b n L τ).2.2.2.1 ∧ (nxt b n L τ).2.2.2.1 ≤ 59 ∧ P.1 < 20 := by
  obtain ⟨T, hT, h14, h20, h5, hT0, he⟩ := mTd_m h
  have hv := tNu_r h5
  have hI := pThing_I (b := b) (L := L) (D := D) hb hn hD (nxt_OK (L := L) (τ := nxt b n L τ) hb hn) (tNu_8 (nxt_OK (L := L) (τ := τ) hb hn) h5) (show pGd (pWt P (nxt b n L τ).2.2.2.1) from hF.2)
  rw [hT] at hI
  have h3 := hI.1.2.2.2.1
  refine ⟨by rw [he]; exact pFit_s hF (by omega) (by omega) hI.1 (hI.2 hT0), by rw [he]; exact hI.1.2.1, by rw [he], ?_, by omega, by omega⟩
  · rw [he]
    show T.2.2.2.2.1 P.1 = _
    rw [h3]
    exact un_s _ _ _
theorem dX13_plan_0 : decode cX13_plan 0 = .ok (.aload_n 0, 1) := by decide +kernel
theorem dX13_plan_1 : decode cX13_plan 1 = .ok (.sipush 400, 3) := by decide +kernel
theorem dX13_plan_4 : decode cX13_plan 4 = .ok (.invokevirtual 282, 3) := by decide +kernel
theorem dX13_plan_7 : decode cX13_plan 7 = .ok (.aload_n 0, 1) := by decide +kernel
theorem dX13_plan_8 : decode cX13_plan 8 = .ok (.iconst 0, 1) := by decide +kernel
theorem dX13_plan_9 : decode cX13_plan 9 = .ok (.putfield 491, 3) := by decide +kernel
theorem dX13_plan_12 : decode cX13_plan 12 = .ok (.aload_n 0, 1) := by decide +kernel
theorem dX13_plan_13 : decode cX13_plan 13 = .ok (.getfield 170, 3) := by decide +kernel
theorem dX13_plan_16 : decode cX13_plan 16 = .ok (.ifCond .eq 17, 3) := by decide +kernel
theorem dX13_plan_19 : decode cX13_plan 19 = .ok (.aload_n 0, 1) := by decide +kernel
theorem dX13_plan_20 : decode cX13_plan 20 = .ok (.invokevirtual 497, 3) := by decide +kernel
theorem dX13_plan_23 : decode cX13_plan 23 = .ok (.ifCond .ne (-11), 3) := by decide +kernel
theorem dX13_plan_26 : decode cX13_plan 26 = .ok (.iconst (-1), 1) := by decide +kernel
theorem dX13_plan_27 : decode cX13_plan 27 = .ok (.aload_n 0, 1) := by decide +kernel
theorem dX13_plan_28 : decode cX13_plan 28 = .ok (.getfield 213, 3) := by decide +kernel
theorem dX13_plan_31 : decode cX13_plan 31 = .ok (.isub, 1) := by decide +kernel
theorem dX13_plan_32 : decode cX13_plan 32 = .ok (.ireturn, 1) := by decide +kernel
theorem dX13_plan_33 : decode cX13_plan 33 = .ok (.iconst 0, 1) := by decide +kernel
theorem dX13_plan_34 : decode cX13_plan 34 = .ok (.istore_n 1, 1) := by decide +kernel
theorem dX13_plan_35 : decode cX13_plan 35 = .ok (.iload_n 1, 1) := by decide +kernel
theorem dX13_plan_36 : decode cX13_plan 36 = .ok (.bipush 16, 2) := by decide +kernel
theorem dX13_plan_38 : decode cX13_plan 38 = .ok (.aload_n 0, 1) := by decide +kernel
theorem dX13_plan_39 : decode cX13_plan 39 = .ok (.getfield 491, 3) := by decide +kernel
theorem dX13_plan_42 : decode cX13_plan 42 = .ok (.imul, 1) := by decide +kernel
theorem dX13_plan_43 : decode cX13_plan 43 = .ok (.if_icmp .ge 25, 3) := by decide +kernel
theorem dX13_plan_46 : decode cX13_plan 46 = .ok (.aload_n 0, 1) := by decide +kernel
theorem dX13_plan_47 : decode cX13_plan 47 = .ok (.getfield 13, 3) := by decide +kernel
theorem dX13_plan_50 : decode cX13_plan 50 = .ok (.sipush 210, 3) := by decide +kernel
theorem dX13_plan_53 : decode cX13_plan 53 = .ok (.iload_n 1, 1) := by decide +kernel
theorem dX13_plan_54 : decode cX13_plan 54 = .ok (.iadd, 1) := by decide +kernel
theorem dX13_plan_55 : decode cX13_plan 55 = .ok (.aload_n 0, 1) := by decide +kernel
theorem dX13_plan_56 : decode cX13_plan 56 = .ok (.getfield 19, 3) := by decide +kernel
theorem dX13_plan_59 : decode cX13_plan 59 = .ok (.iload_n 1, 1) := by decide +kernel
theorem dX13_plan_60 : decode cX13_plan 60 = .ok (.iaload, 1) := by decide +kernel
theorem dX13_plan_61 : decode cX13_plan 61 = .ok (.iastore, 1) := by decide +kernel
theorem dX13_plan_62 : decode cX13_plan 62 = .ok (.iinc 1 1, 3) := by decide +kernel
theorem dX13_plan_65 : decode cX13_plan 65 = .ok (.goto (-30), 3) := by decide +kernel
theorem dX13_plan_68 : decode cX13_plan 68 = .ok (.aload_n 0, 1) := by decide +kernel
theorem dX13_plan_69 : decode cX13_plan 69 = .ok (.getfield 13, 3) := by decide +kernel
theorem dX13_plan_72 : decode cX13_plan 72 = .ok (.sipush 200, 3) := by decide +kernel
theorem dX13_plan_75 : decode cX13_plan 75 = .ok (.aload_n 0, 1) := by decide +kernel
theorem dX13_plan_76 : decode cX13_plan 76 = .ok (.getfield 491, 3) := by decide +kernel
theorem dX13_plan_79 : decode cX13_plan 79 = .ok (.iastore, 1) := by decide +kernel
theorem dX13_plan_80 : decode cX13_plan 80 = .ok (.aload_n 0, 1) := by decide +kernel
theorem dX13_plan_81 : decode cX13_plan 81 = .ok (.getfield 491, 3) := by decide +kernel
theorem dX13_plan_84 : decode cX13_plan 84 = .ok (.ireturn, 1) := by decide +kernel
set_option maxRecDepth 100000 in
theorem lp_mplan {l : Launch} {dd : Nat} {Po : zPo} {K0 : zK} {h0 : List va_E} {Xo : zK → Prop} {Gc : zG → Prop} (mo : Nat) (e : Nat → Nat) (n L : Nat) (bt : Nat → Nat) (D : zYd) (nw : Nat → Int32) (nm : Nat → Int64) (g0 : Nat → Int32) (hd : 6 ≤ dd) (hn : n ≤ 740) (hL : L ≤ 740) (hbt : ∀ j, bt j < 256) (h3 : g0 3 = nI n) (h4 : g0 4 = nI L) (hD : yI D) (hy : mYd D nw nm) (G : zPp) (hP : ∀ r K', (¬ G.1 = 0 ∧ r = some (.int (-1 - nI G.2.1.2.1)) ∧ ∃ g w pf, mFr [5, 6, 7, 8, 9, 10, 11, 13, 23, 84] g0 g ∧ g 10 = nI G.1 ∧ K' = [(mo, .inr (11, fMo e g w)), ((e 1), .inl (0, 740, .inl (nF bt))), ((e 14), .inl (0, 800, .inl nw)), ((e 18), .inl (2, 12, .inr (.inl nm))), ((e 16), .inl (0, 320, .inl pf))]) → Po r K') (hk : G.1 = 0 → pFit D G.2.2.2 → ∀ g w pf, mFr [5, 6, 7, 8, 9, 13, 23, 84] g0 g → g 84 = nI G.2.2.2.1 → (∀ i, i < G.2.2.2.1 → pE G.2.2.2 pf i) → zS (l, mX13_plan, dd, Po, K0, h0, Xo, Gc) 0 0 33 [(0, .ref mo)] [] [(mo, .inr (11, fMo e g w)), ((e 1), .inl (0, 740, .inl (nF bt))), ((e 14), .inl (0, 800, .inl nw)), ((e 18), .inl (2, 12, .inr (.inl nm))), ((e 16), .inl (0, 320, .inl pf))]) : ∀ (q ee : Nat) (t : zTk) (tk : Nat) (P : zPl) (g : Nat → Int32) (w : Int64) (pf : Nat → Int32), P.1 + q = 21 → mFr [5, 6, 7, 8, 9, 13, 23, 84] g0 g → mTk n L t g w → tW n L t → tOK t → tk ≤ 99999999 → pFit D P → g 84 = nI P.1 → (∀ i, i < P.1 → pE P pf i) → (ee = if P.1 = 0 then 0 else P.2.1 (P.1 - 1)) → ee ≤ 59 → pThs bt n L D q ee t tk P = G → zS (l, mX13_plan, dd, Po, K0, h0, Xo, Gc) 0 0 12 [(0, .ref mo)] [] [(mo, .inr (11, fMo e g w)), ((e 1), .inl (0, 740, .inl (nF bt))), ((e 14), .inl (0, 800, .inl nw)), ((e 18), .inl (2, 12, .inr (.inl nm))), ((e 16), .inl (0, 320, .inl pf))] := by
  intro q
  induction q with
  | zero =>
    intro ee t tk P g w pf hi hfr hT hW hO htk hF h84 hR hee hee59 hG
    have := hF.1.1
    omega
  | succ q ih =>
    intro ee t tk P g w pf hi hfr hT hW hO htk hF h84 hR hee hee59 hG
    have hP12 : ∀ i, i < P.1 → P.2.2.1 i ≤ 1 → P.2.2.2.1 i ≤ 12 := fun i hi h1 => by
      have hb := (hF.1.2 i hi).2.2.2
      by_cases h0 : P.2.2.1 i = 0
      · exact (hb.1 h0).2
      · exact hb.2.1 (by omega)
    refine zs_aload_n dX13_plan_12 rfl rfl ?_
    have hkd := mKd_4 (n := n) (L := L) hO.1
    refine zs_get 0 dX13_plan_13 zf_RX13_170 rfl (v := .int (g 7)) rfl ?_
    refine zs_as (y := nI (mKd n L t)) (mTk_7 hT) ?_
    refine zs_if_eq (tgt := 33) dX13_plan_16 (by decide) (fun c_1 => ?_) (fun c_1 => ?_)
    · have c_1 : (mKd n L t) = 0 := by have hc := c_1; rw [show (0 : Int32) = nI 0 from rfl] at hc; rw [nI_eq' (by omega) (by omega)] at hc; exact hc
      have hend := mKd_0 c_1
      have eG : G = (0, t, tk, P) := by rw [← hG, pThs_0 hend.1 hend.2]
      exact hk (by rw [eG]) (by rw [eG]; exact hF) g w pf hfr (by rw [eG]; exact h84) (by rw [eG]; exact hR)
    · have c_1 : ¬ ((mKd n L t) = 0) := by have hc := c_1; rw [show (0 : Int32) = nI 0 from rfl] at hc; rw [nI_eq' (by omega) (by omega)] at hc; exact hc
      have hst : ¬ (t.1 = 0 ∧ n ≤ L) := fun h => c_1 (mKd_0i h)
      refine zs_aload_n dX13_plan_19 rfl rfl ?_
      refine zs_callV (M := mX13_readTold) (As := []) (st := []) (Kc := [(mo, .inr (11, fMo e g w)), ((e 1), .inl (0, 740, .inl (nF bt))), ((e 14), .inl (0, 800, .inl nw)), ((e 18), .inl (2, 12, .inr (.inl nm))), ((e 16), .inl (0, 320, .inl pf))]) (Kr := []) [0, 1, 2, 3, 4] [] 0 dX13_plan_20 zl_RX13_497 kX13_readTold rfl rfl rfl rfl rfl (by decide) rfl rfl (show dd - 1 + 1 ≤ dd by omega) (Nat.zero_le _) (Nat.zero_le _) (Nat.le_of_ble_eq_true rfl) (s_mReadTold l (dd - 1) mo e g w n L bt t tk ee D nw nm P pf (by omega) hn hL hbt ((hfr 3 (by decide)).trans h3) ((hfr 4 (by decide)).trans h4) hT hW hO hD hy h84 hF.1.1 hP12 hR hee hee59) (fun r K1 hr => ?_)
      rcases hr with ⟨hq, rfl, g1, w1, pf1, fr1, hT1, hW1, hO1, h84_1, hn1, hR1, rfl⟩ | ⟨hq, rfl, g1, w1, pf1, fr1, h10, h11, rfl⟩
      · skip
        refine zs_if_ne (tgt := 12) dX13_plan_23 (by decide) (fun c_2 => ?_) (fun c_2 => (by first | exact absurd c_2 (by decide) | exact absurd (by decide) c_2 : False).elim)
        have hFF := mTd_F (L := L) hbt hn hD hF hq
        have h0 : ¬ t.1 = 0 := fun h0 => by obtain ⟨_, _, h14, _⟩ := mTd_m hq; have := hO.2.2.2.2.2.2.2.2 _ h14; omega
        refine ih (nxt bt n L t).2.2.2.1 (mTd bt n L D ee t tk P).2.1 (mTd bt n L D ee t tk P).2.2.1 (mTd bt n L D ee t tk P).2.2.2 g1 w1 pf1 (by rw [hn1]; omega) (mFr_t hfr fr1 (by decide) (by decide)) hT1 hW1 hO1 hFF.2.1 hFF.1 (by rw [hn1]; exact h84_1) (by rw [hn1]; exact hR1) ?_ hFF.2.2.2.2.1 ?_
        · rw [hn1, if_neg (by omega), show P.1 + 1 - 1 = P.1 by omega]; exact hFF.2.2.2.1.symm
        · rw [← hG, pThs_s h0 hq]
      · skip
        refine zs_if_ne (tgt := 12) dX13_plan_23 (by decide) (fun c_3 => (by first | exact absurd c_3 (by decide) | exact absurd (by decide) c_3 : False).elim) (fun c_3 => ?_)
        refine zs_iconst (v := (-1)) dX13_plan_26 (by decide) ?_
        refine zs_aload_n dX13_plan_27 rfl rfl ?_
        refine zs_get 0 dX13_plan_28 zf_RX13_213 rfl (v := .int (g1 11)) rfl ?_
        refine zs_as (y := nI (mTd bt n L D ee t tk P).2.1.2.1) h11 ?_
        refine zs_isub dX13_plan_31 ?_
        have eF : G.1 = (mTd bt n L D ee t tk P).1 ∧ G.2.1 = (mTd bt n L D ee t tk P).2.1 := by
          rw [← hG]
          by_cases h0 : t.1 = 0
          · have hLn : L < n := Nat.lt_of_not_le (fun hle => hst ⟨h0, hle⟩)
            rw [pThs_1 h0 hLn, mTd_1 (fun h14 => by have := hO.2.2.2.2.2.2.2.2 _ h14; omega)]
            exact ⟨rfl, rfl⟩
          · rw [pThs_f h0 hq]
            exact ⟨rfl, rfl⟩
        exact zs_iret dX13_plan_32 rfl (hP _ _ ⟨by rw [eF.1]; exact hq, by rw [eF.2, ← h11], g1, w1, pf1, mFr_t hfr fr1 (by decide) (by decide), by rw [eF.1]; exact h10, rfl⟩)
