/-! ===== the reference: plan(), its contract ===== -/
set_option maxRecDepth 100000 in
theorem s_mPlan (l : Launch) (dd : Nat) (mo : Nat) (e : Nat → Nat) (g : Nat → Int32) (w : Int64) (n L : Nat) (bt : Nat → Nat) (v tk : Nat) (D : zYd) (P2 : zPl) (nw : Nat → Int32) (nm : Nat → Int64) (pf : Nat → Int32) (hd : 6 ≤ dd) (hn : n ≤ 740) (hL : L = 400) (hbt : ∀ j, bt j < 256) (hb : g 22 = 0 ∨ g 22 = 1) (h2 : g 2 = nI n) (htk : tk ≤ 99999999) (hD : yI D) (hy : mYd D (mLay g nw) nm) (hP2 : pGd P2) : zSp l mX13_plan dd 0 0 [.ref mo] [(mo, .inr (11, fMo e g w)), ((e 1), .inl (0, 740, .inl (nF bt))), ((e 14), .inl (0, 800, .inl nw)), ((e 18), .inl (2, 12, .inr (.inl nm))), ((e 16), .inl (0, 320, .inl pf))] (fun r K' => ((pThs bt n L D 21 0 (nxt bt n L (0, 0, 0, v, none)) tk (0, P2.2)).1 = 0 ∧ r = some (.int (nI (pThs bt n L D 21 0 (nxt bt n L (0, 0, 0, v, none)) tk (0, P2.2)).2.2.2.1)) ∧ ∃ g' w' nw' pf', mFr [0, 2, 3, 4, 5, 6, 7, 8, 9, 10, 11, 13, 22, 23, 84] g g' ∧ (g' 0 = nI 0 ∧ g' 2 = nI 0 ∧ g' 10 = nI 0 ∧ g' 22 = 1) ∧ mYd D nw' nm ∧ mPl (pThs bt n L D 21 0 (nxt bt n L (0, 0, 0, v, none)) tk (0, P2.2)).2.2.2 nw' ∧ (∀ j, 540 ≤ j → nw' j = mLay g nw j) ∧ K' = [(mo, .inr (11, fMo e g' w')), ((e 1), .inl (0, 740, .inl (nF bt))), ((e 14), .inl (0, 800, .inl (nw'))), ((e 18), .inl (2, 12, .inr (.inl nm))), ((e 16), .inl (0, 320, .inl (pf')))]) ∨ (¬ (pThs bt n L D 21 0 (nxt bt n L (0, 0, 0, v, none)) tk (0, P2.2)).1 = 0 ∧ r = some (.int (-1 - nI (pThs bt n L D 21 0 (nxt bt n L (0, 0, 0, v, none)) tk (0, P2.2)).2.1.2.1)) ∧ ∃ g' w' pf', mFr [0, 2, 3, 4, 5, 6, 7, 8, 9, 10, 11, 13, 22, 23, 84] g g' ∧ (g' 0 = nI 0 ∧ g' 2 = nI 0 ∧ g' 10 = nI (pThs bt n L D 21 0 (nxt bt n L (0, 0, 0, v, none)) tk (0, P2.2)).1 ∧ g' 22 = 1) ∧ K' = [(mo, .inr (11, fMo e g' w')), ((e 1), .inl (0, 740, .inl (nF bt))), ((e 14), .inl (0, 800, .inl (mLay g nw))), ((e 18), .inl (2, 12, .inr (.inl nm))), ((e 16), .inl (0, 320, .inl (pf')))])) := by
  refine zSp.of (by decide) (Nat.le_of_ble_eq_true rfl) (fun h0 => ?_)
  show zS _ 0 0 0 [(0, .ref mo)] [] [(mo, .inr (11, fMo e g w)), ((e 1), .inl (0, 740, .inl (nF bt))), ((e 14), .inl (0, 800, .inl nw)), ((e 18), .inl (2, 12, .inr (.inl nm))), ((e 16), .inl (0, 320, .inl pf))]
  refine zs_aload_n dX13_plan_0 rfl rfl ?_
  refine zs_sipush (v := nI 400) dX13_plan_1 (by decide) ?_
  refine zs_as (y := nI L) (by rw [hL]) ?_
  refine zs_callV (M := mX13_begin) (As := [.int (nI L)]) (st := []) (Kc := [(mo, .inr (11, fMo e g w)), ((e 1), .inl (0, 740, .inl (nF bt))), ((e 14), .inl (0, 800, .inl nw))]) (Kr := [((e 18), .inl (2, 12, .inr (.inl nm))), ((e 16), .inl (0, 320, .inl pf))]) [0, 1, 2] [3, 4] 0 dX13_plan_4 zl_RX13_282 kX13_begin rfl rfl rfl rfl rfl (by decide) rfl rfl (show dd - 1 + 1 ≤ dd by omega) (Nat.zero_le _) (Nat.zero_le _) (Nat.le_of_ble_eq_true rfl) (s_mBegin l (dd - 1) mo e g w n L bt nw (by omega) hn (by omega) hbt hb h2) (fun r K1 hr => ?_)
  obtain ⟨rfl, g1, w1, hfr1, ⟨q0, q2, q3, q4, q10, q22⟩, hT1, rfl⟩ := hr
  refine zs_K (K' := [(mo, .inr (11, fMo e g1 w1)), ((e 1), .inl (0, 740, .inl (nF bt))), ((e 14), .inl (0, 800, .inl (mLay g nw))), ((e 18), .inl (2, 12, .inr (.inl nm))), ((e 16), .inl (0, 320, .inl pf))]) [2, 3, 4, 0, 1] rfl (by decide) ?_
  refine zs_aload_n dX13_plan_7 rfl rfl ?_
  refine zs_iconst (v := nI 0) dX13_plan_8 (by decide) ?_
  refine zs_put 0 dX13_plan_9 zf_RX13_491 rfl (Nat.le_of_ble_eq_true rfl) (zPv_i _) ?_
  show zS _ _ _ _ _ _ [(mo, .inr (11, fMo e (upd g1 84 (nI 0)) w1)), ((e 1), .inl (0, 740, .inl (nF bt))), ((e 14), .inl (0, 800, .inl (mLay g nw))), ((e 18), .inl (2, 12, .inr (.inl nm))), ((e 16), .inl (0, 320, .inl pf))]
  refine zs_lv [0] rfl ?_
  refine zs_K (K' := [(mo, .inr (11, fMo e (upd g1 84 (nI 0)) w1)), ((e 1), .inl (0, 740, .inl (nF bt))), ((e 14), .inl (0, 800, .inl (mLay g nw))), ((e 18), .inl (2, 12, .inr (.inl nm))), ((e 16), .inl (0, 320, .inl pf))]) [0, 1, 2, 3, 4] rfl (by decide) ?_
  refine lp_mplan mo e n L bt D (mLay g nw) nm (upd g1 84 (nI 0)) (by omega) hn (by omega) hbt q3 q4 hD hy (pThs bt n L D 21 0 (nxt bt n L (0, 0, 0, v, none)) tk (0, P2.2)) (fun r K1 hb1 => ?_) (fun hG hF g2 w2 pf2 hfr2 h84 hR2 => ?_) 21 0 (nxt bt n L (0, 0, 0, v, none)) tk (0, P2.2) (upd g1 84 (nI 0)) w1 pf rfl mFr_r (mTk_f (hT1 v) rfl rfl rfl rfl rfl) nxt_W (nxt_OK hbt hn) htk ⟨⟨Nat.zero_le _, fun k hk => absurd (show k < 0 from hk) (Nat.not_lt_zero k)⟩, hP2⟩ rfl (fun i hi => absurd (show i < 0 from hi) (Nat.not_lt_zero i)) rfl (Nat.zero_le _) rfl
  · obtain ⟨hG, rfl, g2, w2, pf2, hfr2, h10, rfl⟩ := hb1
    exact Or.inr ⟨hG, rfl, g2, w2, pf2, (mFr_t (mFr_t hfr1 (mFr_u mFr_r (by decide) : mFr [0, 2, 3, 4, 5, 6, 7, 8, 9, 10, 11, 13, 22, 23, 84] g1 (upd g1 84 (nI 0))) (by decide) (by decide) : mFr [0, 2, 3, 4, 5, 6, 7, 8, 9, 10, 11, 13, 22, 23, 84] g (upd g1 84 (nI 0))) hfr2 (by decide) (by decide)), ⟨(hfr2 0 (by decide)).trans q0, (hfr2 2 (by decide)).trans q2, h10, (hfr2 22 (by decide)).trans q22⟩, rfl⟩
  · refine zs_iconst (v := nI 0) dX13_plan_33 (by decide) ?_
    refine zs_istore_n (lv' := [(1, .int (nI 0)), (0, .ref mo)]) dX13_plan_34 (Nat.le_of_ble_eq_true rfl) rfl ?_
    refine zs_lv [1, 0] rfl ?_
    refine zs_eq (K' := [(mo, .inr (11, fMo e g2 w2)), ((e 1), .inl (0, 740, .inl (nF bt))), ((e 14), .inl (0, 800, .inl (pCo pf2 (mLay g nw) 210 0))), ((e 18), .inl (2, 12, .inr (.inl nm))), ((e 16), .inl (0, 320, .inl pf2))]) (by rw [pCo_0]) ?_
    refine lp_mpcp mo e g2 w2 bt (mLay g nw) nm pf2 (pThs bt n L D 21 0 (nxt bt n L (0, 0, 0, v, none)) tk (0, P2.2)).2.2.2.1 hF.1.1 h84 ?_ (16 * (pThs bt n L D 21 0 (nxt bt n L (0, 0, 0, v, none)) tk (0, P2.2)).2.2.2.1) 0 (by omega)
    refine zs_aload_n dX13_plan_68 rfl rfl ?_
    refine zs_get 0 dX13_plan_69 zf_RX13_13 rfl (v := .ref (e 14)) rfl ?_
    refine zs_sipush (v := nI 200) dX13_plan_72 (by decide) ?_
    refine zs_aload_n dX13_plan_75 rfl rfl ?_
    refine zs_get 0 dX13_plan_76 zf_RX13_491 rfl (v := .int (g2 84)) rfl ?_
    refine zs_as (y := nI (pThs bt n L D 21 0 (nxt bt n L (0, 0, 0, v, none)) tk (0, P2.2)).2.2.2.1) h84 ?_
    refine zs_iast 2 dX13_plan_79 rfl (vp_in_nI (by omega) (by omega)) ?_
    rw [nI_c (n := 200) (by omega)]
    show zS _ _ _ _ _ _ [(mo, .inr (11, fMo e g2 w2)), ((e 1), .inl (0, 740, .inl (nF bt))), ((e 14), .inl (0, 800, .inl (upd (pCo pf2 (mLay g nw) 210 (16 * (pThs bt n L D 21 0 (nxt bt n L (0, 0, 0, v, none)) tk (0, P2.2)).2.2.2.1)) 200 (nI (pThs bt n L D 21 0 (nxt bt n L (0, 0, 0, v, none)) tk (0, P2.2)).2.2.2.1)))), ((e 18), .inl (2, 12, .inr (.inl nm))), ((e 16), .inl (0, 320, .inl pf2))]
    refine zs_aload_n dX13_plan_80 rfl rfl ?_
    refine zs_get 0 dX13_plan_81 zf_RX13_491 rfl (v := .int (g2 84)) rfl ?_
    refine zs_as (y := nI (pThs bt n L D 21 0 (nxt bt n L (0, 0, 0, v, none)) tk (0, P2.2)).2.2.2.1) h84 ?_
    have h20 := hF.1.1
    have hy2 : mYd D (upd (pCo pf2 (mLay g nw) 210 (16 * (pThs bt n L D 21 0 (nxt bt n L (0, 0, 0, v, none)) tk (0, P2.2)).2.2.2.1)) 200 (nI (pThs bt n L D 21 0 (nxt bt n L (0, 0, 0, v, none)) tk (0, P2.2)).2.2.2.1)) nm := ⟨yR_o hD.1 hy.1 (fun j hj => by rw [upd_x (by omega)]; exact if_neg (by omega)), hy.2⟩
    have hp2 : mPl (pThs bt n L D 21 0 (nxt bt n L (0, 0, 0, v, none)) tk (0, P2.2)).2.2.2 (upd (pCo pf2 (mLay g nw) 210 (16 * (pThs bt n L D 21 0 (nxt bt n L (0, 0, 0, v, none)) tk (0, P2.2)).2.2.2.1)) 200 (nI (pThs bt n L D 21 0 (nxt bt n L (0, 0, 0, v, none)) tk (0, P2.2)).2.2.2.1)) := ⟨upd_s _ _ _, fun i hi => pE_o (hR2 i hi) rfl rfl rfl (fun h1 => by
      have hb := (hF.1.2 i hi).2.2.2
      by_cases h0 : (pThs bt n L D 21 0 (nxt bt n L (0, 0, 0, v, none)) tk (0, P2.2)).2.2.2.2.2.1 i = 0
      · exact (hb.1 h0).2
      · exact hb.2.1 (by omega)) (fun j hj => rfl) (fun j h1 h2 => by
      show (upd (pCo pf2 (mLay g nw) 210 (16 * (pThs bt n L D 21 0 (nxt bt n L (0, 0, 0, v, none)) tk (0, P2.2)).2.2.2.1)) 200 (nI (pThs bt n L D 21 0 (nxt bt n L (0, 0, 0, v, none)) tk (0, P2.2)).2.2.2.1)) (210 + j) = _
      rw [upd_x (by omega), pCo, if_pos (by omega), show 210 + j - 210 = j by omega])⟩
    exact zs_iret dX13_plan_84 rfl (Or.inl ⟨hG, rfl, g2, w2, (upd (pCo pf2 (mLay g nw) 210 (16 * (pThs bt n L D 21 0 (nxt bt n L (0, 0, 0, v, none)) tk (0, P2.2)).2.2.2.1)) 200 (nI (pThs bt n L D 21 0 (nxt bt n L (0, 0, 0, v, none)) tk (0, P2.2)).2.2.2.1)), pf2, (mFr_t (mFr_t hfr1 (mFr_u mFr_r (by decide) : mFr [0, 2, 3, 4, 5, 6, 7, 8, 9, 10, 11, 13, 22, 23, 84] g1 (upd g1 84 (nI 0))) (by decide) (by decide) : mFr [0, 2, 3, 4, 5, 6, 7, 8, 9, 10, 11, 13, 22, 23, 84] g (upd g1 84 (nI 0))) hfr2 (by decide) (by decide)), ⟨(hfr2 0 (by decide)).trans q0, (hfr2 2 (by decide)).trans q2, (hfr2 10 (by decide)).trans q10, (hfr2 22 (by decide)).trans q22⟩, hy2, hp2, fun j hj => by rw [upd_x (by omega)]; exact if_neg (by omega), rfl⟩)
