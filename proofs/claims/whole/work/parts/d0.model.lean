/-! ===== the reference: best() whole ===== -/
set_option maxRecDepth 100000 in
theorem lp_mb3 {l : Launch} {dd : Nat} {Po : zPo} {K0 : zK} {h0 : List va_E} {Xo : zK → Prop} {Gc : zG → Prop} (mo : Nat) (e : Nat → Nat) (g : Nat → Int32) (w : Int64) (nw : Nat → Int32) (M : zRs) (bt f : Nat → Nat) (n : Nat) (od A br : Nat → Nat) (bd : Nat → Int32) (hn : 2 ≤ n ∧ n ≤ 7) (h51 : g 51 = nI n)
    (hk : zS (l, mX13_best, dd, Po, K0, h0, Xo, Gc) 0 0 145 [(0, .ref mo)] [] [(mo, .inr (11, fMo e (mg g M.1) w)), ((e 14), .inl (0, 800, .inl nw)), ((e 24), .inl (0, 12, .inl (nF (M.2 24)))), ((e 25), .inl (0, 12, .inl (nF (M.2 25)))), ((e 26), .inl (0, 12, .inl (nF (M.2 26)))), ((e 27), .inl (0, 12, .inl (nF (M.2 27)))), ((e 28), .inl (0, 360, .inl (nF (M.2 28)))), ((e 29), .inl (0, 12, .inl (nF (M.2 29)))), ((e 30), .inl (0, 12, .inl (nF (M.2 30)))), ((e 31), .inl (0, 30, .inl (nF (M.2 31)))), ((e 32), .inl (0, 12, .inl (nF (M.2 32)))), ((e 1), .inl (0, 740, .inl (nF bt))), ((e 46), .inl (0, 7, .inl (nF od))), ((e 47), .inl (0, 7, .inl (nF A))), ((e 48), .inl (0, 7, .inl (nF br))), ((e 49), .inl (0, 7, .inl (pCl (nF br) bd n)))]) :
    ∀ (m i : Nat) , i + m = n → zS (l, mX13_best, dd, Po, K0, h0, Xo, Gc) 0 0 119 [(0, .ref mo), (1, .int (nI i))] [] [(mo, .inr (11, fMo e (mg g M.1) w)), ((e 14), .inl (0, 800, .inl nw)), ((e 24), .inl (0, 12, .inl (nF (M.2 24)))), ((e 25), .inl (0, 12, .inl (nF (M.2 25)))), ((e 26), .inl (0, 12, .inl (nF (M.2 26)))), ((e 27), .inl (0, 12, .inl (nF (M.2 27)))), ((e 28), .inl (0, 360, .inl (nF (M.2 28)))), ((e 29), .inl (0, 12, .inl (nF (M.2 29)))), ((e 30), .inl (0, 12, .inl (nF (M.2 30)))), ((e 31), .inl (0, 30, .inl (nF (M.2 31)))), ((e 32), .inl (0, 12, .inl (nF (M.2 32)))), ((e 1), .inl (0, 740, .inl (nF bt))), ((e 46), .inl (0, 7, .inl (nF od))), ((e 47), .inl (0, 7, .inl (nF A))), ((e 48), .inl (0, 7, .inl (nF br))), ((e 49), .inl (0, 7, .inl (pCl (nF br) bd i)))] := by
  intro m
  induction m with
  | zero =>
    intro i hi
    refine zs_iload_n dX13_best_119 rfl ?_
    refine zs_aload_n dX13_best_120 rfl rfl ?_
    refine zs_get 0 dX13_best_121 zf_RX13_396 rfl (v := .int (g 51)) rfl ?_
    refine zs_as (y := nI n) h51 ?_
    refine zs_icmp_ge (tgt := 145) dX13_best_124 (by decide) (fun c_1 => ?_) (fun c_1 => (c_1 (by rw [show i = n by omega]; exact Int32.le_refl _) : False).elim)
    rw [show i = n by omega]
    refine zs_lv [0] rfl ?_
    exact hk
  | succ m ih =>
    intro i hi
    refine zs_iload_n dX13_best_119 rfl ?_
    refine zs_aload_n dX13_best_120 rfl rfl ?_
    refine zs_get 0 dX13_best_121 zf_RX13_396 rfl (v := .int (g 51)) rfl ?_
    refine zs_as (y := nI n) h51 ?_
    refine zs_icmp_ge (tgt := 145) dX13_best_124 (by decide) (fun c_1 => (nI_ge (show i < n by omega) (by omega) c_1 : False).elim) (fun c_1 => ?_)
    refine zs_aload_n dX13_best_127 rfl rfl ?_
    refine zs_get 0 dX13_best_128 zf_RX13_81 rfl (v := .ref (e 49)) rfl ?_
    refine zs_iload_n dX13_best_131 rfl ?_
    refine zs_aload_n dX13_best_132 rfl rfl ?_
    refine zs_get 0 dX13_best_133 zf_RX13_78 rfl (v := .ref (e 48)) rfl ?_
    refine zs_iload_n dX13_best_136 rfl ?_
    refine zs_iald 14 dX13_best_137 rfl (vp_in_nI (by omega) (by omega)) ?_
    refine zs_as (y := nI (br i)) (by rw [nI_c (n := i) (by omega)]; rfl) ?_
    refine zs_iast 15 dX13_best_138 rfl (vp_in_nI (by omega) (by omega)) ?_
    rw [nI_c (n := i) (by omega)]
    rw [pCl_u (new := nF br) (old := bd) (k := i) (x := nI (br i)) rfl]
    show zS _ _ _ _ _ _ [(mo, .inr (11, fMo e (mg g M.1) w)), ((e 14), .inl (0, 800, .inl nw)), ((e 24), .inl (0, 12, .inl (nF (M.2 24)))), ((e 25), .inl (0, 12, .inl (nF (M.2 25)))), ((e 26), .inl (0, 12, .inl (nF (M.2 26)))), ((e 27), .inl (0, 12, .inl (nF (M.2 27)))), ((e 28), .inl (0, 360, .inl (nF (M.2 28)))), ((e 29), .inl (0, 12, .inl (nF (M.2 29)))), ((e 30), .inl (0, 12, .inl (nF (M.2 30)))), ((e 31), .inl (0, 30, .inl (nF (M.2 31)))), ((e 32), .inl (0, 12, .inl (nF (M.2 32)))), ((e 1), .inl (0, 740, .inl (nF bt))), ((e 46), .inl (0, 7, .inl (nF od))), ((e 47), .inl (0, 7, .inl (nF A))), ((e 48), .inl (0, 7, .inl (nF br))), ((e 49), .inl (0, 7, .inl (pCl (nF br) bd (i + 1))))]
    refine zs_iinc (v := (nI (i + 1))) (lv' := [(1, .int (nI (i + 1))), (0, .ref mo)]) dX13_best_139 rfl (nI_add _ 1) (Nat.le_of_ble_eq_true rfl) rfl ?_
    refine zs_goto (tgt := 119) dX13_best_142 (by decide) ?_
    refine zs_lv [1, 0] rfl ?_
    exact ih (i + 1) (by omega)
set_option maxRecDepth 100000 in
theorem s_mBest (l : Launch) (dd : Nat) (mo : Nat) (e : Nat → Nat) (g : Nat → Int32) (w : Int64) (nw : Nat → Int32) (D : zYd) (M : zRs) (bt : Nat → Nat) (n : Nat) (f od aa br : Nat → Nat) (bd : Nat → Int32) (hd : 12 ≤ dd) (hR : yR D (mLay g nw)) (hD : yI D) (hb : g 22 = 0 ∨ g 22 = 1) (h2 : g 2 = nI n) (hn : n ≤ 740) (hbt : ∀ j, bt j < 256) (hf : ∀ p, p < n → f p = bt p) : zSp l mX13_best dd 0 0 [.ref mo] [(mo, .inr (11, fMo e (mg g M.1) w)), ((e 14), .inl (0, 800, .inl nw)), ((e 24), .inl (0, 12, .inl (nF (M.2 24)))), ((e 25), .inl (0, 12, .inl (nF (M.2 25)))), ((e 26), .inl (0, 12, .inl (nF (M.2 26)))), ((e 27), .inl (0, 12, .inl (nF (M.2 27)))), ((e 28), .inl (0, 360, .inl (nF (M.2 28)))), ((e 29), .inl (0, 12, .inl (nF (M.2 29)))), ((e 30), .inl (0, 12, .inl (nF (M.2 30)))), ((e 31), .inl (0, 30, .inl (nF (M.2 31)))), ((e 32), .inl (0, 12, .inl (nF (M.2 32)))), ((e 1), .inl (0, 740, .inl (nF bt))), ((e 46), .inl (0, 7, .inl (nF od))), ((e 47), .inl (0, 7, .inl (nF aa))), ((e 48), .inl (0, 7, .inl (nF br))), ((e 49), .inl (0, 7, .inl bd))] (fun r K' => (pMn bt n (D.1 0) 2 7 = 0 ∧ r = some (.int (-1)) ∧ ∃ (g' : Nat → Int32) (M' : zRs) (od' aa' br' : Nat → Nat) (bd' : Nat → Int32), mFr [0, 2, 22, 33, 34, 35, 36, 37, 38, 39, 40, 41, 42, 50, 51, 52] g g' ∧ g' 0 = nI 0 ∧ g' 2 = nI 0 ∧ g' 22 = 1 ∧ g' 51 = g 51 ∧ bd' = bd ∧ K' = [(mo, .inr (11, fMo e (mg g' M'.1) w)), ((e 14), .inl (0, 800, .inl (mLay g nw))), ((e 24), .inl (0, 12, .inl (nF (M'.2 24)))), ((e 25), .inl (0, 12, .inl (nF (M'.2 25)))), ((e 26), .inl (0, 12, .inl (nF (M'.2 26)))), ((e 27), .inl (0, 12, .inl (nF (M'.2 27)))), ((e 28), .inl (0, 360, .inl (nF (M'.2 28)))), ((e 29), .inl (0, 12, .inl (nF (M'.2 29)))), ((e 30), .inl (0, 12, .inl (nF (M'.2 30)))), ((e 31), .inl (0, 30, .inl (nF (M'.2 31)))), ((e 32), .inl (0, 12, .inl (nF (M'.2 32)))), ((e 1), .inl (0, 740, .inl (nF bt))), ((e 46), .inl (0, 7, .inl (nF od'))), ((e 47), .inl (0, 7, .inl (nF aa'))), ((e 48), .inl (0, 7, .inl (nF br'))), ((e 49), .inl (0, 7, .inl (bd')))]) ∨ (¬ pMn bt n (D.1 0) 2 7 = 0 ∧ ∃ gs, pRm n f gs ∧ rSt gs n ∧ r = some (.int (nI (bO D gs n n 0 (2147483647, fun _ => 0)).1)) ∧ ∃ (g' : Nat → Int32) (M' : zRs) (od' aa' br' : Nat → Nat) (bd' : Nat → Int32), mFr [0, 2, 22, 33, 34, 35, 36, 37, 38, 39, 40, 41, 42, 50, 51, 52] g g' ∧ g' 0 = nI 0 ∧ g' 2 = nI 0 ∧ g' 22 = 1 ∧ mLi (bO D gs n n 0 (2147483647, fun _ => 0)).2 n bd' (g' 51) ∧ K' = [(mo, .inr (11, fMo e (mg g' M'.1) w)), ((e 14), .inl (0, 800, .inl (mLay g nw))), ((e 24), .inl (0, 12, .inl (nF (M'.2 24)))), ((e 25), .inl (0, 12, .inl (nF (M'.2 25)))), ((e 26), .inl (0, 12, .inl (nF (M'.2 26)))), ((e 27), .inl (0, 12, .inl (nF (M'.2 27)))), ((e 28), .inl (0, 360, .inl (nF (M'.2 28)))), ((e 29), .inl (0, 12, .inl (nF (M'.2 29)))), ((e 30), .inl (0, 12, .inl (nF (M'.2 30)))), ((e 31), .inl (0, 30, .inl (nF (M'.2 31)))), ((e 32), .inl (0, 12, .inl (nF (M'.2 32)))), ((e 1), .inl (0, 740, .inl (nF bt))), ((e 46), .inl (0, 7, .inl (nF od'))), ((e 47), .inl (0, 7, .inl (nF aa'))), ((e 48), .inl (0, 7, .inl (nF br'))), ((e 49), .inl (0, 7, .inl (bd')))])) := by
  refine zSp.of (by decide) (Nat.le_of_ble_eq_true rfl) (fun h0 => ?_)
  show zS _ 0 0 0 [(0, .ref mo)] [] [(mo, .inr (11, fMo e (mg g M.1) w)), ((e 14), .inl (0, 800, .inl nw)), ((e 24), .inl (0, 12, .inl (nF (M.2 24)))), ((e 25), .inl (0, 12, .inl (nF (M.2 25)))), ((e 26), .inl (0, 12, .inl (nF (M.2 26)))), ((e 27), .inl (0, 12, .inl (nF (M.2 27)))), ((e 28), .inl (0, 360, .inl (nF (M.2 28)))), ((e 29), .inl (0, 12, .inl (nF (M.2 29)))), ((e 30), .inl (0, 12, .inl (nF (M.2 30)))), ((e 31), .inl (0, 30, .inl (nF (M.2 31)))), ((e 32), .inl (0, 12, .inl (nF (M.2 32)))), ((e 1), .inl (0, 740, .inl (nF bt))), ((e 46), .inl (0, 7, .inl (nF od))), ((e 47), .inl (0, 7, .inl (nF aa))), ((e 48), .inl (0, 7, .inl (nF br))), ((e 49), .inl (0, 7, .inl bd))]
  refine zs_aload_n dX13_best_0 rfl rfl ?_
  refine zs_iconst (v := nI 0) dX13_best_1 (by decide) ?_
  refine zs_put 0 dX13_best_2 zf_RX13_148 rfl (Nat.le_of_ble_eq_true rfl) (zPv_i _) ?_
  show zS _ _ _ _ _ _ [(mo, .inr (11, fMo e (mg (upd g 0 (nI 0)) M.1) w)), ((e 14), .inl (0, 800, .inl nw)), ((e 24), .inl (0, 12, .inl (nF (M.2 24)))), ((e 25), .inl (0, 12, .inl (nF (M.2 25)))), ((e 26), .inl (0, 12, .inl (nF (M.2 26)))), ((e 27), .inl (0, 12, .inl (nF (M.2 27)))), ((e 28), .inl (0, 360, .inl (nF (M.2 28)))), ((e 29), .inl (0, 12, .inl (nF (M.2 29)))), ((e 30), .inl (0, 12, .inl (nF (M.2 30)))), ((e 31), .inl (0, 30, .inl (nF (M.2 31)))), ((e 32), .inl (0, 12, .inl (nF (M.2 32)))), ((e 1), .inl (0, 740, .inl (nF bt))), ((e 46), .inl (0, 7, .inl (nF od))), ((e 47), .inl (0, 7, .inl (nF aa))), ((e 48), .inl (0, 7, .inl (nF br))), ((e 49), .inl (0, 7, .inl bd))]
  refine zs_aload_n dX13_best_5 rfl rfl ?_
  refine zs_iconst (v := nI 2) dX13_best_6 (by decide) ?_
  refine zs_bipush (v := nI 7) dX13_best_7 (by decide) ?_
  refine zs_iconst (v := nI 1) dX13_best_9 (by decide) ?_
  refine zs_callV (M := mX13_takesTeam) (As := [.int (nI 2), .int (nI 7), .int (nI 1)]) (st := []) (Kc := [(mo, .inr (11, fMo e (mg (upd g 0 (nI 0)) M.1) w)), ((e 14), .inl (0, 800, .inl nw)), ((e 24), .inl (0, 12, .inl (nF (M.2 24)))), ((e 25), .inl (0, 12, .inl (nF (M.2 25)))), ((e 26), .inl (0, 12, .inl (nF (M.2 26)))), ((e 27), .inl (0, 12, .inl (nF (M.2 27)))), ((e 28), .inl (0, 360, .inl (nF (M.2 28)))), ((e 29), .inl (0, 12, .inl (nF (M.2 29)))), ((e 30), .inl (0, 12, .inl (nF (M.2 30)))), ((e 31), .inl (0, 30, .inl (nF (M.2 31)))), ((e 32), .inl (0, 12, .inl (nF (M.2 32)))), ((e 1), .inl (0, 740, .inl (nF bt)))]) (Kr := [((e 46), .inl (0, 7, .inl (nF od))), ((e 47), .inl (0, 7, .inl (nF aa))), ((e 48), .inl (0, 7, .inl (nF br))), ((e 49), .inl (0, 7, .inl bd))]) [0, 1, 2, 3, 4, 5, 6, 7, 8, 9, 10, 11] [12, 13, 14, 15] 0 dX13_best_10 zl_RX13_372 kX13_takesTeam rfl rfl rfl rfl rfl (by decide) rfl rfl (show dd - 1 + 1 ≤ dd by omega) (Nat.zero_le _) (Nat.zero_le _) (Nat.le_of_ble_eq_true rfl) (s_tTeam l (dd - 1) mo e (upd g 0 (nI 0)) w nw D M bt n 2 7 (by omega) hR hD hb h2 hn hbt (by decide) (by decide)) (fun r K1 hr => ?_)
  rcases hr with ⟨htd, rfl, g1, M1, hfr1, h2_1, h22_1, h33, hteam, rfl⟩ | ⟨htd, rfl, g1, M1, hfr1, h2_1, h22_1, rfl⟩
  · refine zs_K (K' := [(mo, .inr (11, fMo e (mg g1 M1.1) w)), ((e 14), .inl (0, 800, .inl (mLay g nw))), ((e 24), .inl (0, 12, .inl (nF (M1.2 24)))), ((e 25), .inl (0, 12, .inl (nF (M1.2 25)))), ((e 26), .inl (0, 12, .inl (nF (M1.2 26)))), ((e 27), .inl (0, 12, .inl (nF (M1.2 27)))), ((e 28), .inl (0, 360, .inl (nF (M1.2 28)))), ((e 29), .inl (0, 12, .inl (nF (M1.2 29)))), ((e 30), .inl (0, 12, .inl (nF (M1.2 30)))), ((e 31), .inl (0, 30, .inl (nF (M1.2 31)))), ((e 32), .inl (0, 12, .inl (nF (M1.2 32)))), ((e 1), .inl (0, 740, .inl (nF bt))), ((e 46), .inl (0, 7, .inl (nF od))), ((e 47), .inl (0, 7, .inl (nF aa))), ((e 48), .inl (0, 7, .inl (nF br))), ((e 49), .inl (0, 7, .inl bd))]) [4, 5, 6, 7, 8, 9, 10, 11, 12, 13, 14, 15, 0, 1, 2, 3] rfl (by decide) ?_
    have hmn : pMn bt n (D.1 0) 2 7 = n := if_pos htd
    have htp : pTdP bt n (D.1 0) 2 7 := of_decide_eq_true htd
    have hn12 : n ≤ 12 := Nat.le_trans htp.2.1 (by decide)
    have hnlo : 2 ≤ n := htp.1
    refine zs_if_ne (tgt := 18) dX13_best_13 (by decide) (fun c_1 => ?_) (fun c_1 => (by first | exact absurd c_1 (by decide) | exact absurd (by decide) c_1 : False).elim)
    have hn7 : n ≤ 7 := htp.2.1
    have hfD : ∀ p, p < n → f p < D.1 0 := fun p hp => by rw [hf p hp]; exact htp.2.2.1 p hp
    refine zs_aload_n dX13_best_18 rfl rfl ?_
    refine zs_aload_n dX13_best_19 rfl rfl ?_
    refine zs_get 0 dX13_best_20 zf_RX13_304 rfl (v := .int (nI (M1.1 33))) rfl ?_
    refine zs_as (y := nI n) (congrArg nI h33) ?_
    refine zs_put 0 dX13_best_23 zf_RX13_389 rfl (Nat.le_of_ble_eq_true rfl) (zPv_i _) ?_
    show zS _ _ _ _ _ _ [(mo, .inr (11, fMo e (mg (upd g1 52 (nI n)) M1.1) w)), ((e 14), .inl (0, 800, .inl (mLay g nw))), ((e 24), .inl (0, 12, .inl (nF (M1.2 24)))), ((e 25), .inl (0, 12, .inl (nF (M1.2 25)))), ((e 26), .inl (0, 12, .inl (nF (M1.2 26)))), ((e 27), .inl (0, 12, .inl (nF (M1.2 27)))), ((e 28), .inl (0, 360, .inl (nF (M1.2 28)))), ((e 29), .inl (0, 12, .inl (nF (M1.2 29)))), ((e 30), .inl (0, 12, .inl (nF (M1.2 30)))), ((e 31), .inl (0, 30, .inl (nF (M1.2 31)))), ((e 32), .inl (0, 12, .inl (nF (M1.2 32)))), ((e 1), .inl (0, 740, .inl (nF bt))), ((e 46), .inl (0, 7, .inl (nF od))), ((e 47), .inl (0, 7, .inl (nF aa))), ((e 48), .inl (0, 7, .inl (nF br))), ((e 49), .inl (0, 7, .inl bd))]
    refine zs_iconst (v := nI 0) dX13_best_26 (by decide) ?_
    refine zs_istore_n (lv' := [(1, .int (nI 0)), (0, .ref mo)]) dX13_best_27 (Nat.le_of_ble_eq_true rfl) rfl ?_
    refine zs_lv [1, 0] rfl ?_
    refine lp_mb2 mo e (upd g1 52 (nI n)) w (mLay g nw) M1 bt f n od br bd ⟨hnlo, hn7⟩ rfl (fun p hp => (hteam p hp).trans (hf p hp).symm) (fun p hp => by have := hfD p hp; have := hD.1; omega) (fun i hi j hj => by rw [hf i hi, hf j (by omega)]; exact htp.2.2.2 i hi j hj) (fun A hst hA => ?_) n 0 aa (Nat.zero_add _) (fun x y _ h => absurd h (Nat.not_lt_zero y)) ⟨fun i hi => absurd hi (Nat.not_lt_zero i), fun i hi => absurd hi (Nat.not_lt_zero i), fun i hi => absurd hi (Nat.not_lt_zero i)⟩
    have hap : ∀ i, i < n → A i < D.1 0 := fun i hi => by obtain ⟨j, hj, e⟩ := hA.1 i hi; rw [e]; exact hfD j hj
    refine zs_aload_n dX13_best_97 rfl rfl ?_
    refine zs_iconst (v := (-1)) dX13_best_98 (by decide) ?_
    refine zs_put 0 dX13_best_99 zf_RX13_386 rfl (Nat.le_of_ble_eq_true rfl) (zPv_i _) ?_
    show zS _ _ _ _ _ _ [(mo, .inr (11, fMo e (mg (upd (upd g1 50 (-1)) 52 (nI n)) M1.1) w)), ((e 14), .inl (0, 800, .inl (mLay g nw))), ((e 24), .inl (0, 12, .inl (nF (M1.2 24)))), ((e 25), .inl (0, 12, .inl (nF (M1.2 25)))), ((e 26), .inl (0, 12, .inl (nF (M1.2 26)))), ((e 27), .inl (0, 12, .inl (nF (M1.2 27)))), ((e 28), .inl (0, 360, .inl (nF (M1.2 28)))), ((e 29), .inl (0, 12, .inl (nF (M1.2 29)))), ((e 30), .inl (0, 12, .inl (nF (M1.2 30)))), ((e 31), .inl (0, 30, .inl (nF (M1.2 31)))), ((e 32), .inl (0, 12, .inl (nF (M1.2 32)))), ((e 1), .inl (0, 740, .inl (nF bt))), ((e 46), .inl (0, 7, .inl (nF od))), ((e 47), .inl (0, 7, .inl (nF A))), ((e 48), .inl (0, 7, .inl (nF br))), ((e 49), .inl (0, 7, .inl bd))]
    refine zs_aload_n dX13_best_102 rfl rfl ?_
    refine zs_iconst (v := nI 0) dX13_best_103 (by decide) ?_
    refine zs_iconst (v := nI 0) dX13_best_104 (by decide) ?_
    refine zs_iconst (v := nI 0) dX13_best_105 (by decide) ?_
    refine zs_callV (M := mX13_tryOrder) (As := [.int (nI 0), .int (nI 0), .int (nI 0)]) (st := []) (Kc := [(mo, .inr (11, fMo e (mg (upd (upd g1 50 (-1)) 52 (nI n)) M1.1) w)), ((e 14), .inl (0, 800, .inl (mLay g nw))), ((e 24), .inl (0, 12, .inl (nF (M1.2 24)))), ((e 25), .inl (0, 12, .inl (nF (M1.2 25)))), ((e 26), .inl (0, 12, .inl (nF (M1.2 26)))), ((e 27), .inl (0, 12, .inl (nF (M1.2 27)))), ((e 28), .inl (0, 360, .inl (nF (M1.2 28)))), ((e 29), .inl (0, 12, .inl (nF (M1.2 29)))), ((e 30), .inl (0, 12, .inl (nF (M1.2 30)))), ((e 31), .inl (0, 30, .inl (nF (M1.2 31)))), ((e 32), .inl (0, 12, .inl (nF (M1.2 32)))), ((e 46), .inl (0, 7, .inl (nF od))), ((e 47), .inl (0, 7, .inl (nF A))), ((e 48), .inl (0, 7, .inl (nF br)))]) (Kr := [((e 1), .inl (0, 740, .inl (nF bt))), ((e 49), .inl (0, 7, .inl bd))]) [0, 1, 2, 3, 4, 5, 6, 7, 8, 9, 10, 12, 13, 14] [11, 15] 0 dX13_best_106 zl_RX13_392 kX13_tryOrder rfl rfl rfl rfl rfl (by decide) rfl rfl (show dd - 1 + 1 ≤ dd by omega) (Nat.zero_le _) (Nat.zero_le _) (Nat.le_of_ble_eq_true rfl) (s_mTryOrder l mo e g1 w (mLay g nw) D M1 A n hR hD ⟨hnlo, hn7⟩ hap n 0 (dd - 1) (Nat.zero_add _) (by omega) (fun _ => 0) 0 (upd (upd g1 50 (-1)) 52 (nI n)) od br none (fun _ => False) rfl ⟨fun p hp => absurd hp (Nat.not_lt_zero p), fun p q hp => absurd hp (Nat.not_lt_zero p), fun p hp => absurd hp (Nat.not_lt_zero p), by decide, fun j hj => by rw [tSt_0]; exact Nat.zero_testBit j, fun c hV h => h.elim⟩ (fun c hV h => h) rfl) (fun r K1 hr => ?_)
    obtain ⟨rfl, g2, od2, br2, o2, hfr2, hc2, hB2, hod2, rfl⟩ := hr
    have hall : chm (oV n) (oC D A n) n (fun _ => True) o2 := chm_q (fun c hV => ⟨fun _ => trivial, fun _ => Or.inr (fun q hq => absurd hq (Nat.not_lt_zero q))⟩) hc2
    obtain ⟨bp, b, rfl⟩ : ∃ bp b, o2 = some (bp, b) := by
      cases o2 with
      | none => exact absurd trivial (hall (fun x => x) ⟨fun p hp => hp, fun p q _ _ e => e⟩)
      | some q => exact ⟨q.1, q.2, rfl⟩
    have hbo := bO_all hD hnlo hall
    have hbp := hB2.2.1
    refine zs_K (K' := [(mo, .inr (11, fMo e (mg g2 M1.1) w)), ((e 14), .inl (0, 800, .inl (mLay g nw))), ((e 24), .inl (0, 12, .inl (nF (M1.2 24)))), ((e 25), .inl (0, 12, .inl (nF (M1.2 25)))), ((e 26), .inl (0, 12, .inl (nF (M1.2 26)))), ((e 27), .inl (0, 12, .inl (nF (M1.2 27)))), ((e 28), .inl (0, 360, .inl (nF (M1.2 28)))), ((e 29), .inl (0, 12, .inl (nF (M1.2 29)))), ((e 30), .inl (0, 12, .inl (nF (M1.2 30)))), ((e 31), .inl (0, 30, .inl (nF (M1.2 31)))), ((e 32), .inl (0, 12, .inl (nF (M1.2 32)))), ((e 1), .inl (0, 740, .inl (nF bt))), ((e 46), .inl (0, 7, .inl (nF od2))), ((e 47), .inl (0, 7, .inl (nF A))), ((e 48), .inl (0, 7, .inl (nF br2))), ((e 49), .inl (0, 7, .inl bd))]) [2, 3, 4, 5, 6, 7, 8, 9, 10, 11, 12, 0, 13, 14, 15, 1] rfl (by decide) ?_
    refine zs_aload_n dX13_best_109 rfl rfl ?_
    refine zs_aload_n dX13_best_110 rfl rfl ?_
    refine zs_get 0 dX13_best_111 zf_RX13_389 rfl (v := .int (g2 52)) rfl ?_
    refine zs_as (y := nI n) ((hfr2 52 (by decide)).trans rfl) ?_
    refine zs_put 0 dX13_best_114 zf_RX13_396 rfl (Nat.le_of_ble_eq_true rfl) (zPv_i _) ?_
    show zS _ _ _ _ _ _ [(mo, .inr (11, fMo e (mg (upd g2 51 (nI n)) M1.1) w)), ((e 14), .inl (0, 800, .inl (mLay g nw))), ((e 24), .inl (0, 12, .inl (nF (M1.2 24)))), ((e 25), .inl (0, 12, .inl (nF (M1.2 25)))), ((e 26), .inl (0, 12, .inl (nF (M1.2 26)))), ((e 27), .inl (0, 12, .inl (nF (M1.2 27)))), ((e 28), .inl (0, 360, .inl (nF (M1.2 28)))), ((e 29), .inl (0, 12, .inl (nF (M1.2 29)))), ((e 30), .inl (0, 12, .inl (nF (M1.2 30)))), ((e 31), .inl (0, 30, .inl (nF (M1.2 31)))), ((e 32), .inl (0, 12, .inl (nF (M1.2 32)))), ((e 1), .inl (0, 740, .inl (nF bt))), ((e 46), .inl (0, 7, .inl (nF od2))), ((e 47), .inl (0, 7, .inl (nF A))), ((e 48), .inl (0, 7, .inl (nF br2))), ((e 49), .inl (0, 7, .inl bd))]
    refine zs_iconst (v := nI 0) dX13_best_117 (by decide) ?_
    refine zs_istore_n (lv' := [(1, .int (nI 0)), (0, .ref mo)]) dX13_best_118 (Nat.le_of_ble_eq_true rfl) rfl ?_
    refine zs_lv [1, 0] rfl ?_
    refine zs_K (K' := [(mo, .inr (11, fMo e (mg (upd g2 51 (nI n)) M1.1) w)), ((e 14), .inl (0, 800, .inl (mLay g nw))), ((e 24), .inl (0, 12, .inl (nF (M1.2 24)))), ((e 25), .inl (0, 12, .inl (nF (M1.2 25)))), ((e 26), .inl (0, 12, .inl (nF (M1.2 26)))), ((e 27), .inl (0, 12, .inl (nF (M1.2 27)))), ((e 28), .inl (0, 360, .inl (nF (M1.2 28)))), ((e 29), .inl (0, 12, .inl (nF (M1.2 29)))), ((e 30), .inl (0, 12, .inl (nF (M1.2 30)))), ((e 31), .inl (0, 30, .inl (nF (M1.2 31)))), ((e 32), .inl (0, 12, .inl (nF (M1.2 32)))), ((e 1), .inl (0, 740, .inl (nF bt))), ((e 46), .inl (0, 7, .inl (nF od2))), ((e 47), .inl (0, 7, .inl (nF A))), ((e 48), .inl (0, 7, .inl (nF br2))), ((e 49), .inl (0, 7, .inl bd))]) [0, 1, 2, 3, 4, 5, 6, 7, 8, 9, 10, 11, 12, 13, 14, 15] rfl (by decide) ?_
    refine zs_eq (K' := [(mo, .inr (11, fMo e (mg (upd g2 51 (nI n)) M1.1) w)), ((e 14), .inl (0, 800, .inl (mLay g nw))), ((e 24), .inl (0, 12, .inl (nF (M1.2 24)))), ((e 25), .inl (0, 12, .inl (nF (M1.2 25)))), ((e 26), .inl (0, 12, .inl (nF (M1.2 26)))), ((e 27), .inl (0, 12, .inl (nF (M1.2 27)))), ((e 28), .inl (0, 360, .inl (nF (M1.2 28)))), ((e 29), .inl (0, 12, .inl (nF (M1.2 29)))), ((e 30), .inl (0, 12, .inl (nF (M1.2 30)))), ((e 31), .inl (0, 30, .inl (nF (M1.2 31)))), ((e 32), .inl (0, 12, .inl (nF (M1.2 32)))), ((e 1), .inl (0, 740, .inl (nF bt))), ((e 46), .inl (0, 7, .inl (nF od2))), ((e 47), .inl (0, 7, .inl (nF A))), ((e 48), .inl (0, 7, .inl (nF br2))), ((e 49), .inl (0, 7, .inl (pCl (nF br2) bd 0)))]) (by rw [pCl_0]) ?_
    refine lp_mb3 mo e (upd g2 51 (nI n)) w (mLay g nw) M1 bt f n od2 A br2 bd ⟨hnlo, hn7⟩ rfl ?_ n 0 (Nat.zero_add _)
    refine zs_aload_n dX13_best_145 rfl rfl ?_
    refine zs_get 0 dX13_best_146 zf_RX13_386 rfl (v := .int ((upd g2 51 (nI n)) 50)) rfl ?_
    refine zs_as (y := nI bp) hB2.1 ?_
    exact zs_iret dX13_best_149 rfl (Or.inr ⟨by rw [hmn]; omega, A, hA, hst, by rw [hbo.1], upd g2 51 (nI n), M1, od2, A, br2, pCl (nF br2) bd n, (mFr_u (mFr_t (mFr_u (mFr_u (mFr_t (mFr_u mFr_r (by decide) : mFr [0] g (upd g 0 (nI 0))) hfr1 (U := [0, 2, 22, 33, 34, 35, 36, 37, 38, 39, 40, 41, 42, 50, 51, 52]) (by decide) (by decide)) (by decide)) (by decide) : mFr [0, 2, 22, 33, 34, 35, 36, 37, 38, 39, 40, 41, 42, 50, 51, 52] g (upd (upd g1 50 (-1)) 52 (nI n))) hfr2 (by decide) (by decide)) (by decide)), (hfr2 0 (by decide)).trans (hfr1 0 (by decide)), (hfr2 2 (by decide)).trans h2_1, (hfr2 22 (by decide)).trans h22_1, ⟨rfl, fun p hp => (if_pos hp).trans (congrArg nI ((hB2.2.2 p hp).trans (hbo.2 p hp).symm))⟩, rfl⟩)
  · refine zs_K (K' := [(mo, .inr (11, fMo e (mg g1 M1.1) w)), ((e 14), .inl (0, 800, .inl (mLay g nw))), ((e 24), .inl (0, 12, .inl (nF (M1.2 24)))), ((e 25), .inl (0, 12, .inl (nF (M1.2 25)))), ((e 26), .inl (0, 12, .inl (nF (M1.2 26)))), ((e 27), .inl (0, 12, .inl (nF (M1.2 27)))), ((e 28), .inl (0, 360, .inl (nF (M1.2 28)))), ((e 29), .inl (0, 12, .inl (nF (M1.2 29)))), ((e 30), .inl (0, 12, .inl (nF (M1.2 30)))), ((e 31), .inl (0, 30, .inl (nF (M1.2 31)))), ((e 32), .inl (0, 12, .inl (nF (M1.2 32)))), ((e 1), .inl (0, 740, .inl (nF bt))), ((e 46), .inl (0, 7, .inl (nF od))), ((e 47), .inl (0, 7, .inl (nF aa))), ((e 48), .inl (0, 7, .inl (nF br))), ((e 49), .inl (0, 7, .inl bd))]) [4, 5, 6, 7, 8, 9, 10, 11, 12, 13, 14, 15, 0, 1, 2, 3] rfl (by decide) ?_
    refine zs_if_ne (tgt := 18) dX13_best_13 (by decide) (fun c_2 => (by first | exact absurd c_2 (by decide) | exact absurd (by decide) c_2 : False).elim) (fun c_2 => ?_)
    refine zs_iconst (v := (-1)) dX13_best_16 (by decide) ?_
    exact zs_iret dX13_best_17 rfl (Or.inl ⟨(pMn_0 (by decide)).mpr htd, rfl, g1, M1, od, aa, br, bd, (mFr_t (mFr_u mFr_r (by decide) : mFr [0] g (upd g 0 (nI 0))) hfr1 (U := [0, 2, 22, 33, 34, 35, 36, 37, 38, 39, 40, 41, 42, 50, 51, 52]) (by decide) (by decide)), hfr1 0 (by decide), h2_1, h22_1, hfr1 51 (by decide), rfl, rfl⟩)
/-- whoever sorts them, sorts them so -/
theorem bO_g {D : zYd} {f g a : Nat → Nat} {n : Nat} (hD : yI D) (hn : 2 ≤ n) (pg : pRm n f g) (hg : rSt g n) (pa : pRm n f a) (ha : rSt a n) : (bO D g n n 0 (2147483647, fun _ => 0)).1 = (bO D a n n 0 (2147483647, fun _ => 0)).1 ∧ ∀ p, p < n → (bO D g n n 0 (2147483647, fun _ => 0)).2 p = (bO D a n n 0 (2147483647, fun _ => 0)).2 p := by
  have e := srt_u hg ha pg pa
  obtain ⟨o', h1, h2⟩ := bO_c (g := a) hD hn n 0 (2147483647, fun _ => 0) none (by omega) rfl (fun c _ h => absurd h (Nat.not_lt_zero _))
  cases o' with
  | none => exact absurd trivial (h2 (fun x => x) ⟨fun p hp => hp, fun p q _ _ e => e⟩)
  | some q =>
    obtain ⟨bp, b⟩ := q
    have h3 : chm (oV n) (oC D g n) n (fun _ => True) (some (bp, b)) := chm_c (fun c hV => pPd_c n (fun i hi => (e (c i) (hV.1 i hi)).symm)) h2
    have k1 := bO_all hD hn h2
    have k2 := bO_all hD hn h3
    exact ⟨k2.1.trans k1.1.symm, fun p hp => (k2.2 p hp).trans ((e (b p) (h2.1.1 p hp)).trans (k1.2 p hp).symm)⟩
