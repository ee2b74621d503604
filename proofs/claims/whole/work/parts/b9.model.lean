/-! ===== the reference: row() whole, rowBy, done ===== -/
theorem cWork_1 {back spill hold : Nat} {pww : Nat → Nat} {s : zRs} : ∀ n, (cWork back spill hold pww n s).1 1 = s.1 1
  | 0 => rfl
  | n + 1 => (cDn_m back spill hold pww _ (cT0 (cWork back spill hold pww n s))).trans (cWork_1 n)
theorem rBy_n {s : zRs} {x : Int32} (h : bIn x (nI 0) (nI 5) = false) : rBy s x = -1 := by
  have hx : ∀ j, j < 6 → ¬ x = nI j := fun j hj e => by
    rw [e, bIn_nat (by omega) (by omega) (by omega)] at h
    exact absurd (of_decide_eq_false h) (fun q => q ⟨by omega, by omega⟩)
  unfold rBy
  by_cases h0 : s.1 1 = 0
  · rw [if_pos h0]
  · rw [if_neg h0, if_neg (hx 0 (by decide)), if_neg (hx 1 (by decide)), if_neg (hx 2 (by decide)), if_neg (hx 3 (by decide)), if_neg (hx 4 (by decide)), if_neg (hx 5 (by decide))]
theorem mRw_of {D : zYd} {s M : zRs} {rb rd : Nat → Int32} {P t : Nat} (h : tR D s M) (hJ : cJ P t s) (h90 : s.2 9 0 = 0) : mRw s (upd (upd (upd (upd (upd (upd rb 0 (nI (cHp (M.2 30) (s.1 1)).2)) 1 (nI (cHp (M.2 30) (s.1 1)).1)) 2 (nI (M.1 42))) 3 (nI (M.1 40))) 4 (nI (M.1 41))) 5 (nI (nSum (gS M) (s.1 1)))) (pCl (nF (M.2 27)) rd (s.1 1)) (nI (s.1 1)) := by
  obtain ⟨⟨n33, n35, n36, n37, n39, n40, n41, n42⟩, h2, hC, h4⟩ := h
  have hn := hJ.1.1
  have hc : cHp (M.2 30) (s.1 1) = cHp (s.2 9) (s.1 1) := cHp_c _ (fun p hp => (h2 p hp).2.2.2.2.2.2.2.1)
  refine ⟨rfl, fun j hj => ?_, fun p hp => (if_pos hp).trans (congrArg nI (h2 p hp).2.2.2.2.2.1)⟩
  have hj6 : j = 0 ∨ j = 1 ∨ j = 2 ∨ j = 3 ∨ j = 4 ∨ j = 5 := by omega
  unfold rBy
  rw [if_neg (show ¬ s.1 1 = 0 by omega), hc]
  rcases hj6 with rfl | rfl | rfl | rfl | rfl | rfl
  · rfl
  · rfl
  · exact congrArg nI n42
  · exact congrArg nI n40
  · exact congrArg nI n41
  · show nI (nSum (gS M) (s.1 1)) = nI (s.1 16) - nI (s.1 17) - nI (s.1 15)
    have h4 := h4.1
    rw [n33] at h4
    rw [nI_sub (by omega), nI_sub (by omega)]
    exact congrArg nI (by omega)
set_option maxRecDepth 100000 in
theorem s_mRow (l : Launch) (dd : Nat) (mo : Nat) (e : Nat → Nat) (g : Nat → Int32) (w : Int64) (nw : Nat → Int32) (D : zYd) (M : zRs) (bt : Nat → Nat) (n : Nat) (f : Nat → Nat) (ro : zRs) (x : Int32) (rb rd : Nat → Int32) (hd : 9 ≤ dd) (hR : yR D (mLay g nw)) (hD : yI D) (hb : g 22 = 0 ∨ g 22 = 1) (h2 : g 2 = nI n) (hn : n ≤ 740) (hbt : ∀ j, bt j < 256) (hW : cW ro) (hf : ∀ p, p < n → f p = bt p) : zSp l mX13_row dd 0 0 [.ref mo, .int x] [(mo, .inr (11, fMo e (mg g M.1) w)), ((e 14), .inl (0, 800, .inl nw)), ((e 24), .inl (0, 12, .inl (nF (M.2 24)))), ((e 25), .inl (0, 12, .inl (nF (M.2 25)))), ((e 26), .inl (0, 12, .inl (nF (M.2 26)))), ((e 27), .inl (0, 12, .inl (nF (M.2 27)))), ((e 28), .inl (0, 360, .inl (nF (M.2 28)))), ((e 29), .inl (0, 12, .inl (nF (M.2 29)))), ((e 30), .inl (0, 12, .inl (nF (M.2 30)))), ((e 31), .inl (0, 30, .inl (nF (M.2 31)))), ((e 32), .inl (0, 12, .inl (nF (M.2 32)))), ((e 1), .inl (0, 740, .inl (nF bt))), ((e 43), .inl (0, 6, .inl rb)), ((e 44), .inl (0, 12, .inl rd))] (fun r K' => ((pMn bt n (D.1 0) 2 12 = 0 ∨ ¬ tkT x = true) ∧ r = some (.int (-1)) ∧ ∃ (g' : Nat → Int32) (M' : zRs), mFr [0, 2, 22, 33, 34, 35, 36, 37, 38, 39, 40, 41, 42, 45] g g' ∧ g' 0 = nI 0 ∧ g' 2 = nI 0 ∧ g' 22 = 1 ∧ g' 45 = g 45 ∧ K' = [(mo, .inr (11, fMo e (mg g' M'.1) w)), ((e 14), .inl (0, 800, .inl (mLay g nw))), ((e 24), .inl (0, 12, .inl (nF (M'.2 24)))), ((e 25), .inl (0, 12, .inl (nF (M'.2 25)))), ((e 26), .inl (0, 12, .inl (nF (M'.2 26)))), ((e 27), .inl (0, 12, .inl (nF (M'.2 27)))), ((e 28), .inl (0, 360, .inl (nF (M'.2 28)))), ((e 29), .inl (0, 12, .inl (nF (M'.2 29)))), ((e 30), .inl (0, 12, .inl (nF (M'.2 30)))), ((e 31), .inl (0, 30, .inl (nF (M'.2 31)))), ((e 32), .inl (0, 12, .inl (nF (M'.2 32)))), ((e 1), .inl (0, 740, .inl (nF bt))), ((e 43), .inl (0, 6, .inl rb)), ((e 44), .inl (0, 12, .inl rd))]) ∨ (∃ k, k ≤ 3600 ∧ x = nI k ∧ ¬ pMn bt n (D.1 0) 2 12 = 0 ∧ r = some (.int (nI ((rwB D f n (D.1 9) k ro).1 15))) ∧ ∃ (g' : Nat → Int32) (M' : zRs) (rb' rd' : Nat → Int32), mFr [0, 2, 22, 33, 34, 35, 36, 37, 38, 39, 40, 41, 42, 45] g g' ∧ g' 0 = nI 0 ∧ g' 2 = nI 0 ∧ g' 22 = 1 ∧ mRw (rwB D f n (D.1 9) k ro) rb' rd' (g' 45) ∧ K' = [(mo, .inr (11, fMo e (mg g' M'.1) w)), ((e 14), .inl (0, 800, .inl (mLay g nw))), ((e 24), .inl (0, 12, .inl (nF (M'.2 24)))), ((e 25), .inl (0, 12, .inl (nF (M'.2 25)))), ((e 26), .inl (0, 12, .inl (nF (M'.2 26)))), ((e 27), .inl (0, 12, .inl (nF (M'.2 27)))), ((e 28), .inl (0, 360, .inl (nF (M'.2 28)))), ((e 29), .inl (0, 12, .inl (nF (M'.2 29)))), ((e 30), .inl (0, 12, .inl (nF (M'.2 30)))), ((e 31), .inl (0, 30, .inl (nF (M'.2 31)))), ((e 32), .inl (0, 12, .inl (nF (M'.2 32)))), ((e 1), .inl (0, 740, .inl (nF bt))), ((e 43), .inl (0, 6, .inl (rb'))), ((e 44), .inl (0, 12, .inl (rd')))])) := by
  refine zSp.of (by decide) (Nat.le_of_ble_eq_true rfl) (fun h0 => ?_)
  show zS _ 0 0 0 [(0, .ref mo), (1, .int x)] [] [(mo, .inr (11, fMo e (mg g M.1) w)), ((e 14), .inl (0, 800, .inl nw)), ((e 24), .inl (0, 12, .inl (nF (M.2 24)))), ((e 25), .inl (0, 12, .inl (nF (M.2 25)))), ((e 26), .inl (0, 12, .inl (nF (M.2 26)))), ((e 27), .inl (0, 12, .inl (nF (M.2 27)))), ((e 28), .inl (0, 360, .inl (nF (M.2 28)))), ((e 29), .inl (0, 12, .inl (nF (M.2 29)))), ((e 30), .inl (0, 12, .inl (nF (M.2 30)))), ((e 31), .inl (0, 30, .inl (nF (M.2 31)))), ((e 32), .inl (0, 12, .inl (nF (M.2 32)))), ((e 1), .inl (0, 740, .inl (nF bt))), ((e 43), .inl (0, 6, .inl rb)), ((e 44), .inl (0, 12, .inl rd))]
  refine zs_aload_n dX13_row_0 rfl rfl ?_
  refine zs_iconst (v := nI 0) dX13_row_1 (by decide) ?_
  refine zs_put 0 dX13_row_2 zf_RX13_148 rfl (Nat.le_of_ble_eq_true rfl) (zPv_i _) ?_
  show zS _ _ _ _ _ _ [(mo, .inr (11, fMo e (mg (upd g 0 (nI 0)) M.1) w)), ((e 14), .inl (0, 800, .inl nw)), ((e 24), .inl (0, 12, .inl (nF (M.2 24)))), ((e 25), .inl (0, 12, .inl (nF (M.2 25)))), ((e 26), .inl (0, 12, .inl (nF (M.2 26)))), ((e 27), .inl (0, 12, .inl (nF (M.2 27)))), ((e 28), .inl (0, 360, .inl (nF (M.2 28)))), ((e 29), .inl (0, 12, .inl (nF (M.2 29)))), ((e 30), .inl (0, 12, .inl (nF (M.2 30)))), ((e 31), .inl (0, 30, .inl (nF (M.2 31)))), ((e 32), .inl (0, 12, .inl (nF (M.2 32)))), ((e 1), .inl (0, 740, .inl (nF bt))), ((e 43), .inl (0, 6, .inl rb)), ((e 44), .inl (0, 12, .inl rd))]
  refine zs_aload_n dX13_row_5 rfl rfl ?_
  refine zs_iconst (v := nI 2) dX13_row_6 (by decide) ?_
  refine zs_bipush (v := nI 12) dX13_row_7 (by decide) ?_
  refine zs_iconst (v := nI 1) dX13_row_9 (by decide) ?_
  refine zs_callV (M := mX13_takesTeam) (As := [.int (nI 2), .int (nI 12), .int (nI 1)]) (st := []) (Kc := [(mo, .inr (11, fMo e (mg (upd g 0 (nI 0)) M.1) w)), ((e 14), .inl (0, 800, .inl nw)), ((e 24), .inl (0, 12, .inl (nF (M.2 24)))), ((e 25), .inl (0, 12, .inl (nF (M.2 25)))), ((e 26), .inl (0, 12, .inl (nF (M.2 26)))), ((e 27), .inl (0, 12, .inl (nF (M.2 27)))), ((e 28), .inl (0, 360, .inl (nF (M.2 28)))), ((e 29), .inl (0, 12, .inl (nF (M.2 29)))), ((e 30), .inl (0, 12, .inl (nF (M.2 30)))), ((e 31), .inl (0, 30, .inl (nF (M.2 31)))), ((e 32), .inl (0, 12, .inl (nF (M.2 32)))), ((e 1), .inl (0, 740, .inl (nF bt)))]) (Kr := [((e 43), .inl (0, 6, .inl rb)), ((e 44), .inl (0, 12, .inl rd))]) [0, 1, 2, 3, 4, 5, 6, 7, 8, 9, 10, 11] [12, 13] 0 dX13_row_10 zl_RX13_372 kX13_takesTeam rfl rfl rfl rfl rfl (by decide) rfl rfl (show dd - 1 + 1 ≤ dd by omega) (Nat.zero_le _) (Nat.zero_le _) (Nat.le_of_ble_eq_true rfl) (s_tTeam l (dd - 1) mo e (upd g 0 (nI 0)) w nw D M bt n 2 12 (by omega) hR hD hb h2 hn hbt (by decide) (by decide)) (fun r K1 hr => ?_)
  rcases hr with ⟨htd, rfl, g1, M1, hfr1, h2_1, h22_1, h33, hteam, rfl⟩ | ⟨htd, rfl, g1, M1, hfr1, h2_1, h22_1, rfl⟩
  · refine zs_K (K' := [(mo, .inr (11, fMo e (mg g1 M1.1) w)), ((e 14), .inl (0, 800, .inl (mLay g nw))), ((e 24), .inl (0, 12, .inl (nF (M1.2 24)))), ((e 25), .inl (0, 12, .inl (nF (M1.2 25)))), ((e 26), .inl (0, 12, .inl (nF (M1.2 26)))), ((e 27), .inl (0, 12, .inl (nF (M1.2 27)))), ((e 28), .inl (0, 360, .inl (nF (M1.2 28)))), ((e 29), .inl (0, 12, .inl (nF (M1.2 29)))), ((e 30), .inl (0, 12, .inl (nF (M1.2 30)))), ((e 31), .inl (0, 30, .inl (nF (M1.2 31)))), ((e 32), .inl (0, 12, .inl (nF (M1.2 32)))), ((e 1), .inl (0, 740, .inl (nF bt))), ((e 43), .inl (0, 6, .inl rb)), ((e 44), .inl (0, 12, .inl rd))]) [2, 3, 4, 5, 6, 7, 8, 9, 10, 11, 12, 13, 0, 1] rfl (by decide) ?_
    have hmn : pMn bt n (D.1 0) 2 12 = n := if_pos htd
    have htp : pTdP bt n (D.1 0) 2 12 := of_decide_eq_true htd
    have hn12 : n ≤ 12 := Nat.le_trans htp.2.1 (by decide)
    have hnlo : 2 ≤ n := htp.1
    refine zs_if_eq (tgt := 27) dX13_row_13 (by decide) (fun c_1 => (by first | exact absurd c_1 (by decide) | exact absurd (by decide) c_1 : False).elim) (fun c_1 => ?_)
    refine zs_iload_n dX13_row_16 rfl ?_
    refine zs_iconst (v := nI 0) dX13_row_17 (by decide) ?_
    refine zs_sipush (v := nI 3600) dX13_row_18 (by decide) ?_
    refine zs_callS (M := mX13_isIn) (As := [.int x, .int (nI 0), .int (nI 3600)]) (st := []) (Kc := []) (Kr := [(mo, .inr (11, fMo e (mg g1 M1.1) w)), ((e 14), .inl (0, 800, .inl (mLay g nw))), ((e 24), .inl (0, 12, .inl (nF (M1.2 24)))), ((e 25), .inl (0, 12, .inl (nF (M1.2 25)))), ((e 26), .inl (0, 12, .inl (nF (M1.2 26)))), ((e 27), .inl (0, 12, .inl (nF (M1.2 27)))), ((e 28), .inl (0, 360, .inl (nF (M1.2 28)))), ((e 29), .inl (0, 12, .inl (nF (M1.2 29)))), ((e 30), .inl (0, 12, .inl (nF (M1.2 30)))), ((e 31), .inl (0, 30, .inl (nF (M1.2 31)))), ((e 32), .inl (0, 12, .inl (nF (M1.2 32)))), ((e 1), .inl (0, 740, .inl (nF bt))), ((e 43), .inl (0, 6, .inl rb)), ((e 44), .inl (0, 12, .inl rd))]) [] [0, 1, 2, 3, 4, 5, 6, 7, 8, 9, 10, 11, 12, 13] dX13_row_21 zl_RX13_219 kX13_isIn rfl rfl rfl rfl rfl (by decide) (show dd - 1 + 1 ≤ dd by omega) (Nat.zero_le _) (Nat.zero_le _) (Nat.le_of_ble_eq_true rfl) (s_mIsIn l (dd - 1) x (nI 0) (nI 3600)) (fun r K1 hr => ?_)
    obtain ⟨rfl, rfl⟩ := hr
    refine zs_K (K' := [(mo, .inr (11, fMo e (mg g1 M1.1) w)), ((e 14), .inl (0, 800, .inl (mLay g nw))), ((e 24), .inl (0, 12, .inl (nF (M1.2 24)))), ((e 25), .inl (0, 12, .inl (nF (M1.2 25)))), ((e 26), .inl (0, 12, .inl (nF (M1.2 26)))), ((e 27), .inl (0, 12, .inl (nF (M1.2 27)))), ((e 28), .inl (0, 360, .inl (nF (M1.2 28)))), ((e 29), .inl (0, 12, .inl (nF (M1.2 29)))), ((e 30), .inl (0, 12, .inl (nF (M1.2 30)))), ((e 31), .inl (0, 30, .inl (nF (M1.2 31)))), ((e 32), .inl (0, 12, .inl (nF (M1.2 32)))), ((e 1), .inl (0, 740, .inl (nF bt))), ((e 43), .inl (0, 6, .inl rb)), ((e 44), .inl (0, 12, .inl rd))]) [0, 1, 2, 3, 4, 5, 6, 7, 8, 9, 10, 11, 12, 13] rfl (by decide) ?_
    refine zs_if_ne (tgt := 29) dX13_row_24 (by decide) (fun c_2 => ?_) (fun c_2 => ?_)
    · have htk : tkT x = true := bI_t c_2
      obtain ⟨k, hk, rfl⟩ := tkT_k htk
      have hfT : ∀ p, p < n → M1.2 24 p = f (0 + p) ∧ f (0 + p) < D.1 0 := fun p hp => by
        rw [Nat.zero_add, hf p hp]
        exact ⟨hteam p hp, htp.2.2.1 p hp⟩
      have hfD : ∀ i, i < n → f i < D.1 0 := fun i hi => by rw [hf i hi]; exact htp.2.2.1 i hi
      refine zs_aload_n dX13_row_29 rfl rfl ?_
      refine zs_iconst (v := nI 1) dX13_row_30 (by decide) ?_
      refine zs_aload_n dX13_row_31 rfl rfl ?_
      refine zs_get 0 dX13_row_32 zf_RX13_304 rfl (v := .int (nI (M1.1 33))) rfl ?_
      refine zs_as (y := nI n) (congrArg nI h33) ?_
      refine zs_aload_n dX13_row_35 rfl rfl ?_
      refine zs_get 0 dX13_row_36 zf_RX13_13 rfl (v := .ref (e 14)) rfl ?_
      refine zs_iconst (v := nI 5) dX13_row_39 (by decide) ?_
      refine zs_iald 1 dX13_row_40 rfl (vp_in_nI (by omega) (by omega)) ?_
      refine zs_as (y := nI (D.1 9)) (by rw [nI_c (n := 5) (by omega)]; exact hR.2.2.2.2.2.1) ?_
      refine zs_iload_n dX13_row_41 rfl ?_
      refine zs_callV (M := mX13_throwsIn) (As := [.int (nI 1), .int (nI n), .int (nI (D.1 9)), .int (nI k)]) (st := []) (Kc := [(mo, .inr (11, fMo e (mg g1 M1.1) w)), ((e 14), .inl (0, 800, .inl (mLay g nw))), ((e 24), .inl (0, 12, .inl (nF (M1.2 24)))), ((e 25), .inl (0, 12, .inl (nF (M1.2 25)))), ((e 26), .inl (0, 12, .inl (nF (M1.2 26)))), ((e 27), .inl (0, 12, .inl (nF (M1.2 27)))), ((e 28), .inl (0, 360, .inl (nF (M1.2 28)))), ((e 29), .inl (0, 12, .inl (nF (M1.2 29)))), ((e 30), .inl (0, 12, .inl (nF (M1.2 30)))), ((e 31), .inl (0, 30, .inl (nF (M1.2 31)))), ((e 32), .inl (0, 12, .inl (nF (M1.2 32))))]) (Kr := [((e 1), .inl (0, 740, .inl (nF bt))), ((e 43), .inl (0, 6, .inl rb)), ((e 44), .inl (0, 12, .inl rd))]) [0, 1, 2, 3, 4, 5, 6, 7, 8, 9, 10] [11, 12, 13] 0 dX13_row_42 zl_RX13_376 kX13_throwsIn rfl rfl rfl rfl rfl (by decide) rfl rfl (show dd - 1 + 1 ≤ dd by omega) (Nat.zero_le _) (Nat.zero_le _) (Nat.le_of_ble_eq_true rfl) (s_tThrow1 l (dd - 1) mo e g1 w (mLay g nw) (yT D (fun _ => 12)) M1 n (D.1 9) k (cBeg D.1 D.2.2.2.1 f 0 n (D.1 9) ro) (D.1 6) hD.2.2.2.2.2.2.2.2.2.2.1.2 (rwB_W hD (by omega) hfD hD.2.2.2.2.2.2.2.2.2.2.2.2.2.1 (Nat.zero_le _) hW) (by omega) hR (yT_I hD (fun _ => Nat.le_refl _)) (by omega) hk (tR_beg (D := yT D (fun _ => 12)) (M := tmWl M1 (D.1 9)) (yT_I hD (fun _ => Nat.le_refl _)) (by omega) hfT rfl yT_0)) (fun r K1 hr => ?_)
      obtain ⟨rfl, M2, hM2, rfl⟩ := hr
      refine zs_K (K' := [(mo, .inr (11, fMo e (mg (upd g1 34 (nI 1)) M2.1) w)), ((e 14), .inl (0, 800, .inl (mLay g nw))), ((e 24), .inl (0, 12, .inl (nF (M2.2 24)))), ((e 25), .inl (0, 12, .inl (nF (M2.2 25)))), ((e 26), .inl (0, 12, .inl (nF (M2.2 26)))), ((e 27), .inl (0, 12, .inl (nF (M2.2 27)))), ((e 28), .inl (0, 360, .inl (nF (M2.2 28)))), ((e 29), .inl (0, 12, .inl (nF (M2.2 29)))), ((e 30), .inl (0, 12, .inl (nF (M2.2 30)))), ((e 31), .inl (0, 30, .inl (nF (M2.2 31)))), ((e 32), .inl (0, 12, .inl (nF (M2.2 32)))), ((e 1), .inl (0, 740, .inl (nF bt))), ((e 43), .inl (0, 6, .inl rb)), ((e 44), .inl (0, 12, .inl rd))]) [3, 4, 5, 6, 7, 8, 9, 10, 11, 12, 13, 0, 1, 2] rfl (by decide) ?_
      refine zs_istore_n (lv' := [(2, .int (nI ((rwB D f n (D.1 9) k ro).1 15))), (0, .ref mo), (1, .int (nI k))]) dX13_row_45 (Nat.le_of_ble_eq_true rfl) rfl ?_
      refine zs_iconst (v := nI 0) dX13_row_46 (by decide) ?_
      refine zs_istore_n (lv' := [(3, .int (nI 0)), (2, .int (nI ((rwB D f n (D.1 9) k ro).1 15))), (0, .ref mo), (1, .int (nI k))]) dX13_row_47 (Nat.le_of_ble_eq_true rfl) rfl ?_
      refine zs_iconst (v := nI 0) dX13_row_48 (by decide) ?_
      refine zs_istore (lv' := [(4, .int (nI 0)), (3, .int (nI 0)), (2, .int (nI ((rwB D f n (D.1 9) k ro).1 15))), (0, .ref mo), (1, .int (nI k))]) dX13_row_49 (Nat.le_of_ble_eq_true rfl) rfl ?_
      refine zs_iconst (v := nI 0) dX13_row_51 (by decide) ?_
      refine zs_istore (lv' := [(5, .int (nI 0)), (4, .int (nI 0)), (3, .int (nI 0)), (2, .int (nI ((rwB D f n (D.1 9) k ro).1 15))), (0, .ref mo), (1, .int (nI k))]) dX13_row_52 (Nat.le_of_ble_eq_true rfl) rfl ?_
      refine zs_iconst (v := nI 0) dX13_row_54 (by decide) ?_
      refine zs_istore (lv' := [(6, .int (nI 0)), (5, .int (nI 0)), (4, .int (nI 0)), (3, .int (nI 0)), (2, .int (nI ((rwB D f n (D.1 9) k ro).1 15))), (0, .ref mo), (1, .int (nI k))]) dX13_row_55 (Nat.le_of_ble_eq_true rfl) rfl ?_
      have hJ2 : cJ (D.1 6) k (rwB D f n (D.1 9) k ro) := rwB_W hD (by omega) hfD hD.2.2.2.2.2.2.2.2.2.2.2.2.2.1 hk hW
      have hM2 : tR (yT D (fun _ => 12)) (rwB D f n (D.1 9) k ro) M2 := hM2
      have hs1 : (rwB D f n (D.1 9) k ro).1 1 = n := cWork_1 k
      have hn2 : M2.1 33 = n := hM2.1.1.trans hs1
      have h90 : (rwB D f n (D.1 9) k ro).2 9 0 = 0 := by rw [rwB, cWork_90]; exact (show nCl (fun _ => 0) (ro.2 9) n 0 = 0 from nCl_s (by omega))
      refine zs_lv [5, 6, 4, 3, 2, 1, 0] rfl ?_
      refine zs_eq (K' := [(mo, .inr (11, fMo e (mg (upd g1 34 (nI 1)) M2.1) w)), ((e 14), .inl (0, 800, .inl (mLay g nw))), ((e 24), .inl (0, 12, .inl (nF (M2.2 24)))), ((e 25), .inl (0, 12, .inl (nF (M2.2 25)))), ((e 26), .inl (0, 12, .inl (nF (M2.2 26)))), ((e 27), .inl (0, 12, .inl (nF (M2.2 27)))), ((e 28), .inl (0, 360, .inl (nF (M2.2 28)))), ((e 29), .inl (0, 12, .inl (nF (M2.2 29)))), ((e 30), .inl (0, 12, .inl (nF (M2.2 30)))), ((e 31), .inl (0, 30, .inl (nF (M2.2 31)))), ((e 32), .inl (0, 12, .inl (nF (M2.2 32)))), ((e 1), .inl (0, 740, .inl (nF bt))), ((e 43), .inl (0, 6, .inl rb)), ((e 44), .inl (0, 12, .inl (pCl (nF (M2.2 27)) rd 0)))]) (by rw [pCl_0]) ?_
      refine lp_row1 mo e (upd g1 34 (nI 1)) w (mLay g nw) M2 bt rb rd k (nI ((rwB D f n (D.1 9) k ro).1 15)) n hn2 (by omega) (fun p hp => ?_) (fun p hp => ?_) ?_ ?_ n 0 (Nat.zero_add _)
      · rw [(hM2.2.1 p (by omega)).2.2.2.2.2.2.1]; exact (hJ2.1.2.1 p (by omega)).2.2.2.2.2.2.1
      · rw [(hM2.2.1 p (by omega)).2.2.2.2.2.2.2.1]; exact (hJ2.1.2.1 p (by omega)).2.2.2.2.2.2.2
      · rw [(hM2.2.1 0 (by omega)).2.2.2.2.2.2.2.1]; exact h90
      refine zs_aload_n dX13_row_160 rfl rfl ?_
      refine zs_aload_n dX13_row_161 rfl rfl ?_
      refine zs_get 0 dX13_row_162 zf_RX13_304 rfl (v := .int (nI (M2.1 33))) rfl ?_
      refine zs_as (y := nI n) (congrArg nI hn2) ?_
      refine zs_put 0 dX13_row_165 zf_RX13_380 rfl (Nat.le_of_ble_eq_true rfl) (zPv_i _) ?_
      show zS _ _ _ _ _ _ [(mo, .inr (11, fMo e (mg (upd (upd g1 34 (nI 1)) 45 (nI n)) M2.1) w)), ((e 14), .inl (0, 800, .inl (mLay g nw))), ((e 24), .inl (0, 12, .inl (nF (M2.2 24)))), ((e 25), .inl (0, 12, .inl (nF (M2.2 25)))), ((e 26), .inl (0, 12, .inl (nF (M2.2 26)))), ((e 27), .inl (0, 12, .inl (nF (M2.2 27)))), ((e 28), .inl (0, 360, .inl (nF (M2.2 28)))), ((e 29), .inl (0, 12, .inl (nF (M2.2 29)))), ((e 30), .inl (0, 12, .inl (nF (M2.2 30)))), ((e 31), .inl (0, 30, .inl (nF (M2.2 31)))), ((e 32), .inl (0, 12, .inl (nF (M2.2 32)))), ((e 1), .inl (0, 740, .inl (nF bt))), ((e 43), .inl (0, 6, .inl rb)), ((e 44), .inl (0, 12, .inl (pCl (nF (M2.2 27)) rd n)))]
      refine zs_aload_n dX13_row_168 rfl rfl ?_
      refine zs_get 0 dX13_row_169 zf_RX13_66 rfl (v := .ref (e 43)) rfl ?_
      refine zs_iconst (v := nI 0) dX13_row_172 (by decide) ?_
      refine zs_iload_n dX13_row_173 rfl ?_
      refine zs_iast 12 dX13_row_174 rfl (vp_in_nI (by omega) (by omega)) ?_
      rw [nI_c (n := 0) (by omega)]
      show zS _ _ _ _ _ _ [(mo, .inr (11, fMo e (mg (upd (upd g1 34 (nI 1)) 45 (nI n)) M2.1) w)), ((e 14), .inl (0, 800, .inl (mLay g nw))), ((e 24), .inl (0, 12, .inl (nF (M2.2 24)))), ((e 25), .inl (0, 12, .inl (nF (M2.2 25)))), ((e 26), .inl (0, 12, .inl (nF (M2.2 26)))), ((e 27), .inl (0, 12, .inl (nF (M2.2 27)))), ((e 28), .inl (0, 360, .inl (nF (M2.2 28)))), ((e 29), .inl (0, 12, .inl (nF (M2.2 29)))), ((e 30), .inl (0, 12, .inl (nF (M2.2 30)))), ((e 31), .inl (0, 30, .inl (nF (M2.2 31)))), ((e 32), .inl (0, 12, .inl (nF (M2.2 32)))), ((e 1), .inl (0, 740, .inl (nF bt))), ((e 43), .inl (0, 6, .inl (upd rb 0 (nI (cHp (M2.2 30) n).2)))), ((e 44), .inl (0, 12, .inl (pCl (nF (M2.2 27)) rd n)))]
      refine zs_aload_n dX13_row_175 rfl rfl ?_
      refine zs_get 0 dX13_row_176 zf_RX13_66 rfl (v := .ref (e 43)) rfl ?_
      refine zs_iconst (v := nI 1) dX13_row_179 (by decide) ?_
      refine zs_iload dX13_row_180 rfl ?_
      refine zs_iast 12 dX13_row_182 rfl (vp_in_nI (by omega) (by omega)) ?_
      rw [nI_c (n := 1) (by omega)]
      show zS _ _ _ _ _ _ [(mo, .inr (11, fMo e (mg (upd (upd g1 34 (nI 1)) 45 (nI n)) M2.1) w)), ((e 14), .inl (0, 800, .inl (mLay g nw))), ((e 24), .inl (0, 12, .inl (nF (M2.2 24)))), ((e 25), .inl (0, 12, .inl (nF (M2.2 25)))), ((e 26), .inl (0, 12, .inl (nF (M2.2 26)))), ((e 27), .inl (0, 12, .inl (nF (M2.2 27)))), ((e 28), .inl (0, 360, .inl (nF (M2.2 28)))), ((e 29), .inl (0, 12, .inl (nF (M2.2 29)))), ((e 30), .inl (0, 12, .inl (nF (M2.2 30)))), ((e 31), .inl (0, 30, .inl (nF (M2.2 31)))), ((e 32), .inl (0, 12, .inl (nF (M2.2 32)))), ((e 1), .inl (0, 740, .inl (nF bt))), ((e 43), .inl (0, 6, .inl (upd (upd rb 0 (nI (cHp (M2.2 30) n).2)) 1 (nI (cHp (M2.2 30) n).1)))), ((e 44), .inl (0, 12, .inl (pCl (nF (M2.2 27)) rd n)))]
      refine zs_aload_n dX13_row_183 rfl rfl ?_
      refine zs_get 0 dX13_row_184 zf_RX13_66 rfl (v := .ref (e 43)) rfl ?_
      refine zs_iconst (v := nI 2) dX13_row_187 (by decide) ?_
      refine zs_aload_n dX13_row_188 rfl rfl ?_
      refine zs_get 0 dX13_row_189 zf_RX13_325 rfl (v := .int (nI (M2.1 42))) rfl ?_
      refine zs_iast 12 dX13_row_192 rfl (vp_in_nI (by omega) (by omega)) ?_
      rw [nI_c (n := 2) (by omega)]
      show zS _ _ _ _ _ _ [(mo, .inr (11, fMo e (mg (upd (upd g1 34 (nI 1)) 45 (nI n)) M2.1) w)), ((e 14), .inl (0, 800, .inl (mLay g nw))), ((e 24), .inl (0, 12, .inl (nF (M2.2 24)))), ((e 25), .inl (0, 12, .inl (nF (M2.2 25)))), ((e 26), .inl (0, 12, .inl (nF (M2.2 26)))), ((e 27), .inl (0, 12, .inl (nF (M2.2 27)))), ((e 28), .inl (0, 360, .inl (nF (M2.2 28)))), ((e 29), .inl (0, 12, .inl (nF (M2.2 29)))), ((e 30), .inl (0, 12, .inl (nF (M2.2 30)))), ((e 31), .inl (0, 30, .inl (nF (M2.2 31)))), ((e 32), .inl (0, 12, .inl (nF (M2.2 32)))), ((e 1), .inl (0, 740, .inl (nF bt))), ((e 43), .inl (0, 6, .inl (upd (upd (upd rb 0 (nI (cHp (M2.2 30) n).2)) 1 (nI (cHp (M2.2 30) n).1)) 2 (nI (M2.1 42))))), ((e 44), .inl (0, 12, .inl (pCl (nF (M2.2 27)) rd n)))]
      refine zs_aload_n dX13_row_193 rfl rfl ?_
      refine zs_get 0 dX13_row_194 zf_RX13_66 rfl (v := .ref (e 43)) rfl ?_
      refine zs_iconst (v := nI 3) dX13_row_197 (by decide) ?_
      refine zs_aload_n dX13_row_198 rfl rfl ?_
      refine zs_get 0 dX13_row_199 zf_RX13_319 rfl (v := .int (nI (M2.1 40))) rfl ?_
      refine zs_iast 12 dX13_row_202 rfl (vp_in_nI (by omega) (by omega)) ?_
      rw [nI_c (n := 3) (by omega)]
      show zS _ _ _ _ _ _ [(mo, .inr (11, fMo e (mg (upd (upd g1 34 (nI 1)) 45 (nI n)) M2.1) w)), ((e 14), .inl (0, 800, .inl (mLay g nw))), ((e 24), .inl (0, 12, .inl (nF (M2.2 24)))), ((e 25), .inl (0, 12, .inl (nF (M2.2 25)))), ((e 26), .inl (0, 12, .inl (nF (M2.2 26)))), ((e 27), .inl (0, 12, .inl (nF (M2.2 27)))), ((e 28), .inl (0, 360, .inl (nF (M2.2 28)))), ((e 29), .inl (0, 12, .inl (nF (M2.2 29)))), ((e 30), .inl (0, 12, .inl (nF (M2.2 30)))), ((e 31), .inl (0, 30, .inl (nF (M2.2 31)))), ((e 32), .inl (0, 12, .inl (nF (M2.2 32)))), ((e 1), .inl (0, 740, .inl (nF bt))), ((e 43), .inl (0, 6, .inl (upd (upd (upd (upd rb 0 (nI (cHp (M2.2 30) n).2)) 1 (nI (cHp (M2.2 30) n).1)) 2 (nI (M2.1 42))) 3 (nI (M2.1 40))))), ((e 44), .inl (0, 12, .inl (pCl (nF (M2.2 27)) rd n)))]
      refine zs_aload_n dX13_row_203 rfl rfl ?_
      refine zs_get 0 dX13_row_204 zf_RX13_66 rfl (v := .ref (e 43)) rfl ?_
      refine zs_iconst (v := nI 4) dX13_row_207 (by decide) ?_
      refine zs_aload_n dX13_row_208 rfl rfl ?_
      refine zs_get 0 dX13_row_209 zf_RX13_322 rfl (v := .int (nI (M2.1 41))) rfl ?_
      refine zs_iast 12 dX13_row_212 rfl (vp_in_nI (by omega) (by omega)) ?_
      rw [nI_c (n := 4) (by omega)]
      show zS _ _ _ _ _ _ [(mo, .inr (11, fMo e (mg (upd (upd g1 34 (nI 1)) 45 (nI n)) M2.1) w)), ((e 14), .inl (0, 800, .inl (mLay g nw))), ((e 24), .inl (0, 12, .inl (nF (M2.2 24)))), ((e 25), .inl (0, 12, .inl (nF (M2.2 25)))), ((e 26), .inl (0, 12, .inl (nF (M2.2 26)))), ((e 27), .inl (0, 12, .inl (nF (M2.2 27)))), ((e 28), .inl (0, 360, .inl (nF (M2.2 28)))), ((e 29), .inl (0, 12, .inl (nF (M2.2 29)))), ((e 30), .inl (0, 12, .inl (nF (M2.2 30)))), ((e 31), .inl (0, 30, .inl (nF (M2.2 31)))), ((e 32), .inl (0, 12, .inl (nF (M2.2 32)))), ((e 1), .inl (0, 740, .inl (nF bt))), ((e 43), .inl (0, 6, .inl (upd (upd (upd (upd (upd rb 0 (nI (cHp (M2.2 30) n).2)) 1 (nI (cHp (M2.2 30) n).1)) 2 (nI (M2.1 42))) 3 (nI (M2.1 40))) 4 (nI (M2.1 41))))), ((e 44), .inl (0, 12, .inl (pCl (nF (M2.2 27)) rd n)))]
      refine zs_aload_n dX13_row_213 rfl rfl ?_
      refine zs_get 0 dX13_row_214 zf_RX13_66 rfl (v := .ref (e 43)) rfl ?_
      refine zs_iconst (v := nI 5) dX13_row_217 (by decide) ?_
      refine zs_iload dX13_row_218 rfl ?_
      refine zs_iast 12 dX13_row_220 rfl (vp_in_nI (by omega) (by omega)) ?_
      rw [nI_c (n := 5) (by omega)]
      show zS _ _ _ _ _ _ [(mo, .inr (11, fMo e (mg (upd (upd g1 34 (nI 1)) 45 (nI n)) M2.1) w)), ((e 14), .inl (0, 800, .inl (mLay g nw))), ((e 24), .inl (0, 12, .inl (nF (M2.2 24)))), ((e 25), .inl (0, 12, .inl (nF (M2.2 25)))), ((e 26), .inl (0, 12, .inl (nF (M2.2 26)))), ((e 27), .inl (0, 12, .inl (nF (M2.2 27)))), ((e 28), .inl (0, 360, .inl (nF (M2.2 28)))), ((e 29), .inl (0, 12, .inl (nF (M2.2 29)))), ((e 30), .inl (0, 12, .inl (nF (M2.2 30)))), ((e 31), .inl (0, 30, .inl (nF (M2.2 31)))), ((e 32), .inl (0, 12, .inl (nF (M2.2 32)))), ((e 1), .inl (0, 740, .inl (nF bt))), ((e 43), .inl (0, 6, .inl (upd (upd (upd (upd (upd (upd rb 0 (nI (cHp (M2.2 30) n).2)) 1 (nI (cHp (M2.2 30) n).1)) 2 (nI (M2.1 42))) 3 (nI (M2.1 40))) 4 (nI (M2.1 41))) 5 (nI (nSum (gS M2) n))))), ((e 44), .inl (0, 12, .inl (pCl (nF (M2.2 27)) rd n)))]
      refine zs_iload_n dX13_row_221 rfl ?_
      have hrw := mRw_of (rb := rb) (rd := rd) hM2 hJ2 h90
      rw [hs1] at hrw
      exact zs_iret dX13_row_222 rfl (Or.inr ⟨k, hk, rfl, by rw [hmn]; omega, rfl, (upd (upd g1 34 (nI 1)) 45 (nI n)), M2, (upd (upd (upd (upd (upd (upd rb 0 (nI (cHp (M2.2 30) n).2)) 1 (nI (cHp (M2.2 30) n).1)) 2 (nI (M2.1 42))) 3 (nI (M2.1 40))) 4 (nI (M2.1 41))) 5 (nI (nSum (gS M2) n))), (pCl (nF (M2.2 27)) rd n), mFr_u (mFr_u (mFr_t (mFr_u mFr_r (by decide) : mFr [0] g (upd g 0 (nI 0))) hfr1 (U := [0, 2, 22, 33, 34, 35, 36, 37, 38, 39, 40, 41, 42, 45]) (by decide) (by decide)) (by decide)) (by decide), hfr1 0 (by decide), h2_1, h22_1, hrw, rfl⟩)
    · have htk : ¬ tkT x = true := fun h => by have h1 : tkT x = false := bI_f c_2; rw [h1] at h; exact absurd h (by decide)
      refine zs_iconst (v := (-1)) dX13_row_27 (by decide) ?_
      exact zs_iret dX13_row_28 rfl (Or.inl ⟨Or.inr htk, rfl, g1, M1, (mFr_t (mFr_u mFr_r (by decide) : mFr [0] g (upd g 0 (nI 0))) hfr1 (U := [0, 2, 22, 33, 34, 35, 36, 37, 38, 39, 40, 41, 42, 45]) (by decide) (by decide)), hfr1 0 (by decide), h2_1, h22_1, hfr1 45 (by decide), rfl⟩)
  · refine zs_K (K' := [(mo, .inr (11, fMo e (mg g1 M1.1) w)), ((e 14), .inl (0, 800, .inl (mLay g nw))), ((e 24), .inl (0, 12, .inl (nF (M1.2 24)))), ((e 25), .inl (0, 12, .inl (nF (M1.2 25)))), ((e 26), .inl (0, 12, .inl (nF (M1.2 26)))), ((e 27), .inl (0, 12, .inl (nF (M1.2 27)))), ((e 28), .inl (0, 360, .inl (nF (M1.2 28)))), ((e 29), .inl (0, 12, .inl (nF (M1.2 29)))), ((e 30), .inl (0, 12, .inl (nF (M1.2 30)))), ((e 31), .inl (0, 30, .inl (nF (M1.2 31)))), ((e 32), .inl (0, 12, .inl (nF (M1.2 32)))), ((e 1), .inl (0, 740, .inl (nF bt))), ((e 43), .inl (0, 6, .inl rb)), ((e 44), .inl (0, 12, .inl rd))]) [2, 3, 4, 5, 6, 7, 8, 9, 10, 11, 12, 13, 0, 1] rfl (by decide) ?_
    refine zs_if_eq (tgt := 27) dX13_row_13 (by decide) (fun c_3 => ?_) (fun c_3 => (by first | exact absurd c_3 (by decide) | exact absurd (by decide) c_3 : False).elim)
    refine zs_iconst (v := (-1)) dX13_row_27 (by decide) ?_
    exact zs_iret dX13_row_28 rfl (Or.inl ⟨Or.inl ((pMn_0 (by decide)).mpr htd), rfl, g1, M1, (mFr_t (mFr_u mFr_r (by decide) : mFr [0] g (upd g 0 (nI 0))) hfr1 (U := [0, 2, 22, 33, 34, 35, 36, 37, 38, 39, 40, 41, 42, 45]) (by decide) (by decide)), hfr1 0 (by decide), h2_1, h22_1, hfr1 45 (by decide), rfl⟩)
theorem dX13_rowBy_0 : decode cX13_rowBy 0 = .ok (.aload_n 0, 1) := by decide +kernel
theorem dX13_rowBy_1 : decode cX13_rowBy 1 = .ok (.iconst 0, 1) := by decide +kernel
theorem dX13_rowBy_2 : decode cX13_rowBy 2 = .ok (.putfield 148, 3) := by decide +kernel
theorem dX13_rowBy_5 : decode cX13_rowBy 5 = .ok (.iload_n 1, 1) := by decide +kernel
theorem dX13_rowBy_6 : decode cX13_rowBy 6 = .ok (.iconst 0, 1) := by decide +kernel
theorem dX13_rowBy_7 : decode cX13_rowBy 7 = .ok (.iconst 5, 1) := by decide +kernel
theorem dX13_rowBy_8 : decode cX13_rowBy 8 = .ok (.invokestatic 219, 3) := by decide +kernel
theorem dX13_rowBy_11 : decode cX13_rowBy 11 = .ok (.ifCond .eq 12, 3) := by decide +kernel
theorem dX13_rowBy_14 : decode cX13_rowBy 14 = .ok (.aload_n 0, 1) := by decide +kernel
theorem dX13_rowBy_15 : decode cX13_rowBy 15 = .ok (.getfield 66, 3) := by decide +kernel
theorem dX13_rowBy_18 : decode cX13_rowBy 18 = .ok (.iload_n 1, 1) := by decide +kernel
theorem dX13_rowBy_19 : decode cX13_rowBy 19 = .ok (.iaload, 1) := by decide +kernel
theorem dX13_rowBy_20 : decode cX13_rowBy 20 = .ok (.goto 4, 3) := by decide +kernel
theorem dX13_rowBy_23 : decode cX13_rowBy 23 = .ok (.iconst (-1), 1) := by decide +kernel
theorem dX13_rowBy_24 : decode cX13_rowBy 24 = .ok (.ireturn, 1) := by decide +kernel
theorem dX13_done_0 : decode cX13_done 0 = .ok (.aload_n 0, 1) := by decide +kernel
theorem dX13_done_1 : decode cX13_done 1 = .ok (.iconst 0, 1) := by decide +kernel
theorem dX13_done_2 : decode cX13_done 2 = .ok (.putfield 148, 3) := by decide +kernel
theorem dX13_done_5 : decode cX13_done 5 = .ok (.iload_n 1, 1) := by decide +kernel
theorem dX13_done_6 : decode cX13_done 6 = .ok (.ifCond .lt 20, 3) := by decide +kernel
theorem dX13_done_9 : decode cX13_done 9 = .ok (.iload_n 1, 1) := by decide +kernel
theorem dX13_done_10 : decode cX13_done 10 = .ok (.aload_n 0, 1) := by decide +kernel
theorem dX13_done_11 : decode cX13_done 11 = .ok (.getfield 380, 3) := by decide +kernel
theorem dX13_done_14 : decode cX13_done 14 = .ok (.if_icmp .ge 12, 3) := by decide +kernel
theorem dX13_done_17 : decode cX13_done 17 = .ok (.aload_n 0, 1) := by decide +kernel
theorem dX13_done_18 : decode cX13_done 18 = .ok (.getfield 69, 3) := by decide +kernel
theorem dX13_done_21 : decode cX13_done 21 = .ok (.iload_n 1, 1) := by decide +kernel
theorem dX13_done_22 : decode cX13_done 22 = .ok (.iaload, 1) := by decide +kernel
theorem dX13_done_23 : decode cX13_done 23 = .ok (.goto 4, 3) := by decide +kernel
theorem dX13_done_26 : decode cX13_done 26 = .ok (.iconst (-1), 1) := by decide +kernel
theorem dX13_done_27 : decode cX13_done 27 = .ok (.ireturn, 1) := by decide +kernel
set_option maxRecDepth 100000 in
theorem s_mRowBy (l : Launch) (dd : Nat) (mo : Nat) (e : Nat → Nat) (g : Nat → Int32) (w : Int64) (rw_ : zRs) (rb rd : Nat → Int32) (x : Int32) (hd : 1 ≤ dd) (hrw : mRw rw_ rb rd (g 45)) : zSp l mX13_rowBy dd 0 0 [.ref mo, .int x] [(mo, .inr (11, fMo e g w)), ((e 43), .inl (0, 6, .inl rb))] (fun r K' => r = some (.int (rBy rw_ x)) ∧ K' = [(mo, .inr (11, fMo e (upd g 0 (nI 0)) w)), ((e 43), .inl (0, 6, .inl rb))]) := by
  refine zSp.of (by decide) (Nat.le_of_ble_eq_true rfl) (fun h0 => ?_)
  show zS _ 0 0 0 [(0, .ref mo), (1, .int x)] [] [(mo, .inr (11, fMo e g w)), ((e 43), .inl (0, 6, .inl rb))]
  refine zs_aload_n dX13_rowBy_0 rfl rfl ?_
  refine zs_iconst (v := nI 0) dX13_rowBy_1 (by decide) ?_
  refine zs_put 0 dX13_rowBy_2 zf_RX13_148 rfl (Nat.le_of_ble_eq_true rfl) (zPv_i _) ?_
  show zS _ _ _ _ _ _ [(mo, .inr (11, fMo e (upd g 0 (nI 0)) w)), ((e 43), .inl (0, 6, .inl rb))]
  refine zs_iload_n dX13_rowBy_5 rfl ?_
  refine zs_iconst (v := nI 0) dX13_rowBy_6 (by decide) ?_
  refine zs_iconst (v := nI 5) dX13_rowBy_7 (by decide) ?_
  refine zs_callS (M := mX13_isIn) (As := [.int x, .int (nI 0), .int (nI 5)]) (st := []) (Kc := []) (Kr := [(mo, .inr (11, fMo e (upd g 0 (nI 0)) w)), ((e 43), .inl (0, 6, .inl rb))]) [] [0, 1] dX13_rowBy_8 zl_RX13_219 kX13_isIn rfl rfl rfl rfl rfl (by decide) (show dd - 1 + 1 ≤ dd by omega) (Nat.zero_le _) (Nat.zero_le _) (Nat.le_of_ble_eq_true rfl) (s_mIsIn l (dd - 1) x (nI 0) (nI 5)) (fun r K1 hr => ?_)
  obtain ⟨rfl, rfl⟩ := hr
  refine zs_K (K' := [(mo, .inr (11, fMo e (upd g 0 (nI 0)) w)), ((e 43), .inl (0, 6, .inl rb))]) [0, 1] rfl (by decide) ?_
  refine zs_if_eq (tgt := 23) dX13_rowBy_11 (by decide) (fun c_1 => ?_) (fun c_1 => ?_)
  · refine zs_iconst (v := (-1)) dX13_rowBy_23 (by decide) ?_
    exact zs_iret dX13_rowBy_24 rfl ⟨by rw [rBy_n (bI_f c_1)], rfl⟩
  · have hin := of_decide_eq_true (bI_t c_1)
    obtain ⟨j, hj, rfl⟩ := zi_nn (x := x) hin.1
    have hj5 : j ≤ 5 := by have h := hin.2; rw [nI_lt' (by omega) (by omega)] at h; omega
    refine zs_aload_n dX13_rowBy_14 rfl rfl ?_
    refine zs_get 0 dX13_rowBy_15 zf_RX13_66 rfl (v := .ref (e 43)) rfl ?_
    refine zs_iload_n dX13_rowBy_18 rfl ?_
    refine zs_iald 1 dX13_rowBy_19 rfl (vp_in_nI (by omega) (by omega)) ?_
    refine zs_as (y := rb j) (by rw [nI_c (n := j) (by omega)]) ?_
    refine zs_goto (tgt := 24) dX13_rowBy_20 (by decide) ?_
    exact zs_iret dX13_rowBy_24 rfl ⟨by rw [hrw.2.1 j (by omega)], rfl⟩
set_option maxRecDepth 100000 in
theorem s_mDone (l : Launch) (dd : Nat) (mo : Nat) (e : Nat → Nat) (g : Nat → Int32) (w : Int64) (rw_ : zRs) (rb rd : Nat → Int32) (x : Int32) (h12 : rw_.1 1 ≤ 12) (hrw : mRw rw_ rb rd (g 45)) : zSp l mX13_done dd 0 0 [.ref mo, .int x] [(mo, .inr (11, fMo e g w)), ((e 44), .inl (0, 12, .inl rd))] (fun r K' => r = some (.int (rDn rw_ x)) ∧ K' = [(mo, .inr (11, fMo e (upd g 0 (nI 0)) w)), ((e 44), .inl (0, 12, .inl rd))]) := by
  refine zSp.of (by decide) (Nat.le_of_ble_eq_true rfl) (fun h0 => ?_)
  show zS _ 0 0 0 [(0, .ref mo), (1, .int x)] [] [(mo, .inr (11, fMo e g w)), ((e 44), .inl (0, 12, .inl rd))]
  refine zs_aload_n dX13_done_0 rfl rfl ?_
  refine zs_iconst (v := nI 0) dX13_done_1 (by decide) ?_
  refine zs_put 0 dX13_done_2 zf_RX13_148 rfl (Nat.le_of_ble_eq_true rfl) (zPv_i _) ?_
  show zS _ _ _ _ _ _ [(mo, .inr (11, fMo e (upd g 0 (nI 0)) w)), ((e 44), .inl (0, 12, .inl rd))]
  refine zs_iload_n dX13_done_5 rfl ?_
  refine zs_if_lt (tgt := 26) dX13_done_6 (by decide) (fun c_1 => ?_) (fun c_1 => ?_)
  · refine zs_iconst (v := (-1)) dX13_done_26 (by decide) ?_
    exact zs_iret dX13_done_27 rfl ⟨by rw [rDn, if_pos c_1], rfl⟩
  · have hneg := c_1
    refine zs_iload_n dX13_done_9 rfl ?_
    refine zs_aload_n dX13_done_10 rfl rfl ?_
    refine zs_get 0 dX13_done_11 zf_RX13_380 rfl (v := .int (g 45)) rfl ?_
    refine zs_as (y := nI (rw_.1 1)) hrw.1 ?_
    refine zs_icmp_ge (tgt := 26) dX13_done_14 (by decide) (fun c_2 => ?_) (fun c_2 => ?_)
    · have hge : ¬ x < nI (rw_.1 1) := Int32.not_lt.mpr c_2
      refine zs_iconst (v := (-1)) dX13_done_26 (by decide) ?_
      exact zs_iret dX13_done_27 rfl ⟨by rw [rDn, if_neg c_1, if_neg hge], rfl⟩
    · have hlt : x < nI (rw_.1 1) := Int32.not_le.mp c_2
      obtain ⟨j, hj, rfl⟩ := zi_nn hneg
      have hj2 : j < rw_.1 1 := by have h := hlt; rw [nI_lt' (by omega) (by omega)] at h; exact h
      refine zs_aload_n dX13_done_17 rfl rfl ?_
      refine zs_get 0 dX13_done_18 zf_RX13_69 rfl (v := .ref (e 44)) rfl ?_
      refine zs_iload_n dX13_done_21 rfl ?_
      refine zs_iald 1 dX13_done_22 rfl (vp_in_nI (by omega) (by omega)) ?_
      refine zs_as (y := rd j) (by rw [nI_c (n := j) (by omega)]) ?_
      refine zs_goto (tgt := 27) dX13_done_23 (by decide) ?_
      exact zs_iret dX13_done_27 rfl ⟨by rw [rDn, if_neg c_1, if_pos hlt, nI_c (by omega), hrw.2.2 j hj2], rfl⟩
