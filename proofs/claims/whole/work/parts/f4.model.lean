/-! ===== the reference: spend, a minute ===== -/
set_option maxRecDepth 100000 in
theorem lp_ments {l : Launch} {dd : Nat} {Po : zPo} {K0 : zK} {h0 : List va_E} {Xo : zK → Prop} {Gc : zG → Prop} (mo : Nat) (e : Nat → Nat) (g : Nat → Int32) (w : Int64) (nw : Nat → Int32) (D : zYd) (P : zPl) (mi V : Nat) (E : Nat × zNi) (nt : Nat → Int32) (hd : 4 ≤ dd) (hR : yR D nw) (hC : D.1 14 ≤ 8) (hRo : D.1 15 ≤ 8) (hD : yI D) (hP : mPl P nw) (hF : pFit D P) (hA : pAi D P) (hS : pSo P) (hmi : mi < 60) (hk2 : ∀ (M : zRs) (g' : Nat → Int32) (S : zFs) (he : Nat → Int32), mFr [34] g g' → sE D P mi V E.1 E.2 M g' S → (∀ j, E.1 ≤ j → j < P.1 → mi + 1 ≤ P.2.1 j) → zS (l, mX13_spend, dd, Po, K0, h0, Xo, Gc) 0 0 211 [(0, .ref mo), (1, .int (nI E.2.2.1)), (2, .int (nI E.1)), (3, .int (nI mi))] [] [(mo, .inr (11, fMo e (mg g' M.1) w)), ((e 14), .inl (0, 800, .inl nw)), ((e 24), .inl (0, 12, .inl (nF (M.2 24)))), ((e 25), .inl (0, 12, .inl (nF (M.2 25)))), ((e 26), .inl (0, 12, .inl (nF (M.2 26)))), ((e 27), .inl (0, 12, .inl (nF (M.2 27)))), ((e 28), .inl (0, 360, .inl (nF (M.2 28)))), ((e 29), .inl (0, 12, .inl (nF (M.2 29)))), ((e 30), .inl (0, 12, .inl (nF (M.2 30)))), ((e 31), .inl (0, 30, .inl (nF (M.2 31)))), ((e 32), .inl (0, 12, .inl (nF (M.2 32)))), ((e 64), .inl (0, 64, .inl (S.1))), ((e 65), .inl (0, 64, .inl (S.2.2))), ((e 66), .inl (0, 64, .inl (S.2.1))), ((e 67), .inl (0, 64, .inl he)), ((e 85), .inl (0, 240, .inl nt))]) : ∀ (q k : Nat) (N : zNi) (M : zRs) (g' : Nat → Int32) (S : zFs) (he : Nat → Int32), k + q = P.1 → mFr [34] g g' → sE D P mi V k N M g' S → (nEnts D.1 D.2.2.2.1 D.2.2.2.2.1 (D.1 14) (D.1 15) P.2.1 P.2.2.1 P.2.2.2.1 P.2.2.2.2 mi q k N) = E → zS (l, mX13_spend, dd, Po, K0, h0, Xo, Gc) 0 0 36 [(0, .ref mo), (1, .int (nI N.2.1)), (2, .int (nI k)), (3, .int (nI mi))] [] [(mo, .inr (11, fMo e (mg g' M.1) w)), ((e 14), .inl (0, 800, .inl nw)), ((e 24), .inl (0, 12, .inl (nF (M.2 24)))), ((e 25), .inl (0, 12, .inl (nF (M.2 25)))), ((e 26), .inl (0, 12, .inl (nF (M.2 26)))), ((e 27), .inl (0, 12, .inl (nF (M.2 27)))), ((e 28), .inl (0, 360, .inl (nF (M.2 28)))), ((e 29), .inl (0, 12, .inl (nF (M.2 29)))), ((e 30), .inl (0, 12, .inl (nF (M.2 30)))), ((e 31), .inl (0, 30, .inl (nF (M.2 31)))), ((e 32), .inl (0, 12, .inl (nF (M.2 32)))), ((e 64), .inl (0, 64, .inl (S.1))), ((e 65), .inl (0, 64, .inl (S.2.2))), ((e 66), .inl (0, 64, .inl (S.2.1))), ((e 67), .inl (0, 64, .inl he)), ((e 85), .inl (0, 240, .inl nt))] := by
  have hth : P.1 ≤ 20 := hF.1.1
  intro q
  induction q with
  | zero =>
    intro k N M g' S he hi hfr hs hE
    refine zs_iload_n dX13_spend_36 rfl ?_
    refine zs_aload_n dX13_spend_37 rfl rfl ?_
    refine zs_get 0 dX13_spend_38 zf_RX13_13 rfl (v := .ref (e 14)) rfl ?_
    refine zs_sipush (v := nI 200) dX13_spend_41 (by decide) ?_
    refine zs_iald 1 dX13_spend_44 rfl (vp_in_nI (by omega) (by omega)) ?_
    refine zs_as (y := nI P.1) (by rw [nI_c (n := 200) (by omega)]; exact hP.1) ?_
    refine zs_icmp_ge (tgt := 211) dX13_spend_45 (by decide) (fun c_1 => ?_) (fun c_1 => (c_1 (by rw [show k = P.1 by omega]; exact Int32.le_refl _) : False).elim)
    refine zs_lv [0, 1, 2, 3] rfl ?_
    obtain rfl : E = (k, N) := hE.symm
    exact hk2 M g' S he hfr hs (fun j h1 h2 => by have h1 : k ≤ j := h1; omega)
  | succ q ih =>
    intro k N M g' S he hi hfr hs hE
    have hpt60 := (hF.1.2 k (by omega)).1
    have hge := hs.2.2.2.2.2.2 k (Nat.le_refl _) (by omega)
    refine zs_iload_n dX13_spend_36 rfl ?_
    refine zs_aload_n dX13_spend_37 rfl rfl ?_
    refine zs_get 0 dX13_spend_38 zf_RX13_13 rfl (v := .ref (e 14)) rfl ?_
    refine zs_sipush (v := nI 200) dX13_spend_41 (by decide) ?_
    refine zs_iald 1 dX13_spend_44 rfl (vp_in_nI (by omega) (by omega)) ?_
    refine zs_as (y := nI P.1) (by rw [nI_c (n := 200) (by omega)]; exact hP.1) ?_
    refine zs_icmp_ge (tgt := 211) dX13_spend_45 (by decide) (fun c_1 => (nI_ge (show k < P.1 by omega) (by omega) c_1 : False).elim) (fun c_1 => ?_)
    refine zs_aload_n dX13_spend_48 rfl rfl ?_
    refine zs_get 0 dX13_spend_49 zf_RX13_13 rfl (v := .ref (e 14)) rfl ?_
    refine zs_sipush (v := nI 210) dX13_spend_52 (by decide) ?_
    refine zs_bipush (v := nI 16) dX13_spend_55 (by decide) ?_
    refine zs_iload_n dX13_spend_57 rfl ?_
    refine zs_imul dX13_spend_58 ?_
    refine zs_as (y := nI (16 * k)) (nI_mul _ _) ?_
    refine zs_iadd dX13_spend_59 ?_
    refine zs_as (y := nI (210 + (16 * k))) (nI_add _ _) ?_
    refine zs_iald 1 dX13_spend_60 rfl (vp_in_nI (by omega) (by omega)) ?_
    refine zs_as (y := nI (P.2.1 k)) (by rw [nI_c (n := 210 + 16 * k) (by omega)]; exact (hP.2 k (by omega)).1) ?_
    refine zs_iload_n dX13_spend_61 rfl ?_
    refine zs_icmp_ne (tgt := 211) dX13_spend_62 (by decide) (fun c_2 => ?_) (fun c_2 => ?_)
    · have c_2 : ¬ ((P.2.1 k) = mi) := by have hc := c_2; rw [nI_eq' (by omega) (by omega)] at hc; exact hc
      refine zs_lv [0, 1, 2, 3] rfl ?_
      have hE2 : (nEnts D.1 D.2.2.2.1 D.2.2.2.2.1 (D.1 14) (D.1 15) P.2.1 P.2.2.1 P.2.2.2.1 P.2.2.2.2 mi (q + 1) k N) = (k, N) := if_neg (by omega)
      obtain rfl : E = (k, N) := hE.symm.trans hE2
      exact hk2 M g' S he hfr hs (fun j h1 h2 => by
        have h1 : k ≤ j := h1
        have h3 := hS k j h1 h2
        have h4 := hs.2.2.2.2.2.2 k (Nat.le_refl _) (by omega)
        omega)
    · have c_2 : (P.2.1 k) = mi := by have hc := c_2; rw [nI_eq' (by omega) (by omega)] at hc; exact hc
      refine zs_sipush (v := nI 210) dX13_spend_65 (by decide) ?_
      refine zs_bipush (v := nI 16) dX13_spend_68 (by decide) ?_
      refine zs_iload_n dX13_spend_70 rfl ?_
      refine zs_imul dX13_spend_71 ?_
      refine zs_as (y := nI (16 * k)) (nI_mul _ _) ?_
      refine zs_iadd dX13_spend_72 ?_
      refine zs_as (y := nI (210 + (16 * k))) (nI_add _ _) ?_
      refine zs_istore (lv' := [(4, .int (nI (210 + (16 * k)))), (0, .ref mo), (1, .int (nI N.2.1)), (2, .int (nI k)), (3, .int (nI mi))]) dX13_spend_73 (Nat.le_of_ble_eq_true rfl) rfl ?_
      have hE2 : (nEnts D.1 D.2.2.2.1 D.2.2.2.2.1 (D.1 14) (D.1 15) P.2.1 P.2.2.1 P.2.2.2.1 P.2.2.2.2 mi q (k + 1) (nEnt D.1 D.2.2.2.1 D.2.2.2.2.1 (D.1 14) (D.1 15) P.2.2.1 P.2.2.2.1 P.2.2.2.2 k N)) = E := (if_pos (by omega) : (nEnts D.1 D.2.2.2.1 D.2.2.2.2.1 (D.1 14) (D.1 15) P.2.1 P.2.2.1 P.2.2.2.1 P.2.2.2.2 mi (q + 1) k N) = _).symm.trans hE
      have hpk4 := (hF.1.2 k (by omega)).2.1
      have hpks : P.2.2.1 k = 0 ∨ P.2.2.1 k = 1 ∨ P.2.2.1 k = 2 ∨ P.2.2.1 k = 3 ∨ P.2.2.1 k = 4 := by omega
      rcases hpks with e0 | e0 | e0 | e0 | e0
      · refine zs_lv [1, 2, 3, 4, 0] rfl ?_
        refine ment_0 mo e g' w nw D P M S he nt N.2.1 k mi (by omega) hR hC hRo hD hP hF (by omega) e0 ?_
        refine zs_iinc (v := (nI (k + 1))) (lv' := [(2, .int (nI (k + 1))), (0, .ref mo), (1, .int (nI N.2.1)), (3, .int (nI mi))]) dX13_spend_205 rfl (nI_add _ 1) (Nat.le_of_ble_eq_true rfl) rfl ?_
        refine zs_goto (tgt := 36) dX13_spend_208 (by decide) ?_
        refine zs_lv [1, 2, 0, 3] rfl ?_
        rw [show nI N.2.1 = nI (nEnt D.1 D.2.2.2.1 D.2.2.2.2.1 (D.1 14) (D.1 15) P.2.2.1 P.2.2.2.1 P.2.2.2.2 k N).2.1 from congrArg nI ((ne_am (by omega)))]
        exact ih (k + 1) (nEnt D.1 D.2.2.2.1 D.2.2.2.2.1 (D.1 14) (D.1 15) P.2.2.1 P.2.2.2.1 P.2.2.2.2 k N) _ _ _ _ (by omega) (mFr_u hfr (by decide)) (sE_0 hD hF (by omega) e0 hs) hE2
      · refine zs_lv [1, 2, 3, 4, 0] rfl ?_
        refine ment_1 mo e g' w nw D P M S he nt N.2.1 k mi (by omega) hR hC hRo hD hP hF (by omega) e0 ?_
        refine zs_iinc (v := (nI (k + 1))) (lv' := [(2, .int (nI (k + 1))), (0, .ref mo), (1, .int (nI N.2.1)), (3, .int (nI mi))]) dX13_spend_205 rfl (nI_add _ 1) (Nat.le_of_ble_eq_true rfl) rfl ?_
        refine zs_goto (tgt := 36) dX13_spend_208 (by decide) ?_
        refine zs_lv [1, 2, 0, 3] rfl ?_
        rw [show nI N.2.1 = nI (nEnt D.1 D.2.2.2.1 D.2.2.2.2.1 (D.1 14) (D.1 15) P.2.2.1 P.2.2.2.1 P.2.2.2.2 k N).2.1 from congrArg nI ((ne_am (by omega)))]
        exact ih (k + 1) (nEnt D.1 D.2.2.2.1 D.2.2.2.2.1 (D.1 14) (D.1 15) P.2.2.1 P.2.2.2.1 P.2.2.2.2 k N) _ _ _ _ (by omega) (mFr_u hfr (by decide)) (sE_1 hD hF (by omega) e0 hs) hE2
      · refine zs_lv [1, 2, 3, 4, 0] rfl ?_
        refine ment_2 mo e g' w nw D P M S he nt N.2.1 k mi (by omega) hR hC hRo hD hP hF (by omega) e0 ?_
        refine zs_iinc (v := (nI (k + 1))) (lv' := [(2, .int (nI (k + 1))), (0, .ref mo), (1, .int (nI N.2.1)), (3, .int (nI mi))]) dX13_spend_205 rfl (nI_add _ 1) (Nat.le_of_ble_eq_true rfl) rfl ?_
        refine zs_goto (tgt := 36) dX13_spend_208 (by decide) ?_
        refine zs_lv [1, 2, 0, 3] rfl ?_
        rw [show nI N.2.1 = nI (nEnt D.1 D.2.2.2.1 D.2.2.2.2.1 (D.1 14) (D.1 15) P.2.2.1 P.2.2.2.1 P.2.2.2.2 k N).2.1 from congrArg nI ((ne_am (by omega)))]
        exact ih (k + 1) (nEnt D.1 D.2.2.2.1 D.2.2.2.2.1 (D.1 14) (D.1 15) P.2.2.1 P.2.2.2.1 P.2.2.2.2 k N) _ _ _ _ (by omega) (mFr_u hfr (by decide)) (sE_2 e0 hs) hE2
      · refine zs_lv [1, 2, 3, 4, 0] rfl ?_
        refine ment_3 mo e g' w nw D P M S he nt N.2.1 k mi (by omega) hR hC hRo hD hP hF (by omega) e0 ?_
        refine zs_iinc (v := (nI (k + 1))) (lv' := [(2, .int (nI (k + 1))), (0, .ref mo), (1, .int (nI (P.2.2.2.1 k))), (3, .int (nI mi))]) dX13_spend_205 rfl (nI_add _ 1) (Nat.le_of_ble_eq_true rfl) rfl ?_
        refine zs_goto (tgt := 36) dX13_spend_208 (by decide) ?_
        refine zs_lv [1, 2, 0, 3] rfl ?_
        rw [show nI (P.2.2.2.1 k) = nI (nEnt D.1 D.2.2.2.1 D.2.2.2.2.1 (D.1 14) (D.1 15) P.2.2.1 P.2.2.2.1 P.2.2.2.2 k N).2.1 from congrArg nI (ne_a3 e0)]
        exact ih (k + 1) (nEnt D.1 D.2.2.2.1 D.2.2.2.2.1 (D.1 14) (D.1 15) P.2.2.1 P.2.2.2.1 P.2.2.2.2 k N) _ _ _ _ (by omega) hfr (sE_3 hA hC hRo (by omega) e0 hs) hE2
      · refine zs_lv [1, 2, 3, 4, 0] rfl ?_
        refine ment_4 mo e g' w nw D P M S he nt N.2.1 k mi (by omega) hR hC hRo hD hP hF (by omega) e0 ?_
        refine zs_iinc (v := (nI (k + 1))) (lv' := [(2, .int (nI (k + 1))), (0, .ref mo), (1, .int (nI N.2.1)), (3, .int (nI mi))]) dX13_spend_205 rfl (nI_add _ 1) (Nat.le_of_ble_eq_true rfl) rfl ?_
        refine zs_goto (tgt := 36) dX13_spend_208 (by decide) ?_
        refine zs_lv [1, 2, 0, 3] rfl ?_
        rw [show nI N.2.1 = nI (nEnt D.1 D.2.2.2.1 D.2.2.2.2.1 (D.1 14) (D.1 15) P.2.2.1 P.2.2.2.1 P.2.2.2.2 k N).2.1 from congrArg nI ((ne_am (by omega)))]
        exact ih (k + 1) (nEnt D.1 D.2.2.2.1 D.2.2.2.2.1 (D.1 14) (D.1 15) P.2.2.1 P.2.2.2.1 P.2.2.2.2 k N) _ _ _ _ (by omega) hfr (sE_4 e0 hs) hE2
set_option maxRecDepth 100000 in
theorem lp_mtick0 {l : Launch} {dd : Nat} {Po : zPo} {K0 : zK} {h0 : List va_E} {Xo : zK → Prop} {Gc : zG → Prop} (mo : Nat) (e : Nat → Nat) (g : Nat → Int32) (w : Int64) (nw : Nat → Int32) (D : zYd) (S : zFs) (he nt : Nat → Int32) (am k mi ah : Nat) (cc : Int32) (N : zNi) (M0 : zRs) (tq : Nat) (hd : 6 ≤ dd) (hR : yR D nw) (hC : D.1 14 ≤ 8) (hRo : D.1 15 ≤ 8) (hD : yI D) (h34 : g 34 = nI 0) (hN : N.1 = 0) (htq : tq + 60 ≤ 3600)
    (hk2 : ∀ (M : zRs), sTk (yT D (fun _ => 12)) N M0 M 60 → zS (l, mX13_spend, dd, Po, K0, h0, Xo, Gc) 0 0 253 [(0, .ref mo), (1, .int (nI am)), (2, .int (nI k)), (3, .int (nI mi)), (4, .int (nI ah)), (5, .int cc)] [] [(mo, .inr (11, fMo e (mg g M.1) w)), ((e 14), .inl (0, 800, .inl nw)), ((e 24), .inl (0, 12, .inl (nF (M.2 24)))), ((e 25), .inl (0, 12, .inl (nF (M.2 25)))), ((e 26), .inl (0, 12, .inl (nF (M.2 26)))), ((e 27), .inl (0, 12, .inl (nF (M.2 27)))), ((e 28), .inl (0, 360, .inl (nF (M.2 28)))), ((e 29), .inl (0, 12, .inl (nF (M.2 29)))), ((e 30), .inl (0, 12, .inl (nF (M.2 30)))), ((e 31), .inl (0, 30, .inl (nF (M.2 31)))), ((e 32), .inl (0, 12, .inl (nF (M.2 32)))), ((e 64), .inl (0, 64, .inl (S.1))), ((e 65), .inl (0, 64, .inl (S.2.2))), ((e 66), .inl (0, 64, .inl (S.2.1))), ((e 67), .inl (0, 64, .inl he)), ((e 85), .inl (0, 240, .inl nt))]) :
    ∀ (m i : Nat) (M : zRs), i + m = 60 → sTk (yT D (fun _ => 12)) N M0 M i → zS (l, mX13_spend, dd, Po, K0, h0, Xo, Gc) 0 0 236 [(0, .ref mo), (1, .int (nI am)), (2, .int (nI k)), (3, .int (nI mi)), (4, .int (nI ah)), (5, .int cc), (6, .int (nI i))] [] [(mo, .inr (11, fMo e (mg g M.1) w)), ((e 14), .inl (0, 800, .inl nw)), ((e 24), .inl (0, 12, .inl (nF (M.2 24)))), ((e 25), .inl (0, 12, .inl (nF (M.2 25)))), ((e 26), .inl (0, 12, .inl (nF (M.2 26)))), ((e 27), .inl (0, 12, .inl (nF (M.2 27)))), ((e 28), .inl (0, 360, .inl (nF (M.2 28)))), ((e 29), .inl (0, 12, .inl (nF (M.2 29)))), ((e 30), .inl (0, 12, .inl (nF (M.2 30)))), ((e 31), .inl (0, 30, .inl (nF (M.2 31)))), ((e 32), .inl (0, 12, .inl (nF (M.2 32)))), ((e 64), .inl (0, 64, .inl (S.1))), ((e 65), .inl (0, 64, .inl (S.2.2))), ((e 66), .inl (0, 64, .inl (S.2.1))), ((e 67), .inl (0, 64, .inl he)), ((e 85), .inl (0, 240, .inl nt))] := by
  intro m
  induction m with
  | zero =>
    intro i M hi hT
    refine zs_iload dX13_spend_236 rfl ?_
    refine zs_bipush (v := nI 60) dX13_spend_238 (by decide) ?_
    refine zs_icmp_ge (tgt := 253) dX13_spend_240 (by decide) (fun c_1 => ?_) (fun c_1 => (c_1 (by rw [show i = 60 by omega]; exact Int32.le_refl _) : False).elim)
    rw [show i = 60 by omega] at hT
    refine zs_lv [0, 1, 2, 3, 4, 5] rfl ?_
    exact hk2 M hT
  | succ m ih =>
    intro i M hi hT
    refine zs_iload dX13_spend_236 rfl ?_
    refine zs_bipush (v := nI 60) dX13_spend_238 (by decide) ?_
    refine zs_icmp_ge (tgt := 253) dX13_spend_240 (by decide) (fun c_1 => (nI_ge (show i < 60 by omega) (by omega) c_1 : False).elim) (fun c_1 => ?_)
    refine zs_aload_n dX13_spend_243 rfl rfl ?_
    refine zs_callV (M := mX13_teamTick) (As := []) (st := []) (Kc := [(mo, .inr (11, fMo e (mg g M.1) w)), ((e 14), .inl (0, 800, .inl nw)), ((e 24), .inl (0, 12, .inl (nF (M.2 24)))), ((e 25), .inl (0, 12, .inl (nF (M.2 25)))), ((e 26), .inl (0, 12, .inl (nF (M.2 26)))), ((e 27), .inl (0, 12, .inl (nF (M.2 27)))), ((e 28), .inl (0, 360, .inl (nF (M.2 28)))), ((e 29), .inl (0, 12, .inl (nF (M.2 29)))), ((e 30), .inl (0, 12, .inl (nF (M.2 30)))), ((e 31), .inl (0, 30, .inl (nF (M.2 31)))), ((e 32), .inl (0, 12, .inl (nF (M.2 32))))]) (Kr := [((e 64), .inl (0, 64, .inl (S.1))), ((e 65), .inl (0, 64, .inl (S.2.2))), ((e 66), .inl (0, 64, .inl (S.2.1))), ((e 67), .inl (0, 64, .inl he)), ((e 85), .inl (0, 240, .inl nt))]) [0, 1, 2, 3, 4, 5, 6, 7, 8, 9, 10] [11, 12, 13, 14, 15] 0 dX13_spend_244 zl_RX13_369 kX13_teamTick rfl rfl rfl rfl rfl (by decide) rfl rfl (show dd - 1 + 1 ≤ dd by omega) (Nat.zero_le _) (Nat.zero_le _) (Nat.le_of_ble_eq_true rfl) (s_tTick0 l (dd - 1) mo e g w nw (yT D (fun _ => 12)) M (by omega) hR (yI_t hD) h34) (fun r K1 hr => ?_)
    obtain ⟨rfl, rfl⟩ := hr
    refine zs_K (K' := [(mo, .inr (11, fMo e (mg g ((tmUp M).1)) w)), ((e 14), .inl (0, 800, .inl nw)), ((e 24), .inl (0, 12, .inl (nF ((tmUp M).2 24)))), ((e 25), .inl (0, 12, .inl (nF ((tmUp M).2 25)))), ((e 26), .inl (0, 12, .inl (nF ((tmUp M).2 26)))), ((e 27), .inl (0, 12, .inl (nF ((tmUp M).2 27)))), ((e 28), .inl (0, 360, .inl (nF ((tmUp M).2 28)))), ((e 29), .inl (0, 12, .inl (nF ((tmUp M).2 29)))), ((e 30), .inl (0, 12, .inl (nF ((tmUp M).2 30)))), ((e 31), .inl (0, 30, .inl (nF ((tmUp M).2 31)))), ((e 32), .inl (0, 12, .inl (nF ((tmUp M).2 32)))), ((e 64), .inl (0, 64, .inl (S.1))), ((e 65), .inl (0, 64, .inl (S.2.2))), ((e 66), .inl (0, 64, .inl (S.2.1))), ((e 67), .inl (0, 64, .inl he)), ((e 85), .inl (0, 240, .inl nt))]) [5, 6, 7, 8, 9, 10, 11, 12, 13, 14, 15, 0, 1, 2, 3, 4] rfl (by decide) ?_
    refine zs_iinc (v := (nI (i + 1))) (lv' := [(6, .int (nI (i + 1))), (0, .ref mo), (1, .int (nI am)), (2, .int (nI k)), (3, .int (nI mi)), (4, .int (nI ah)), (5, .int cc)]) dX13_spend_247 rfl (nI_add _ 1) (Nat.le_of_ble_eq_true rfl) rfl ?_
    refine zs_goto (tgt := 236) dX13_spend_250 (by decide) ?_
    refine zs_lv [1, 2, 3, 4, 5, 6, 0] rfl ?_
    exact ih (i + 1) _ (by omega) ⟨fun e => ⟨(hT.1 e).1, (hT.1 e).2⟩, fun e => absurd e (by omega), fun e => absurd e (by omega)⟩
set_option maxRecDepth 100000 in
theorem lp_mtick1 {l : Launch} {dd : Nat} {Po : zPo} {K0 : zK} {h0 : List va_E} {Xo : zK → Prop} {Gc : zG → Prop} (mo : Nat) (e : Nat → Nat) (g : Nat → Int32) (w : Int64) (nw : Nat → Int32) (D : zYd) (S : zFs) (he nt : Nat → Int32) (am k mi ah : Nat) (cc : Int32) (N : zNi) (M0 : zRs) (tq : Nat) (tj : Nat) (hd : 6 ≤ dd) (hR : yR D nw) (hC : D.1 14 ≤ 8) (hRo : D.1 15 ≤ 8) (hD : yI D) (h34 : g 34 = nI 1) (hN : N.1 = 1) (htq : tq + 60 ≤ 3600) (htj : tj ≤ tq) (hJ : cJ (D.1 6) tj N.2.2.2.1)
    (hk2 : ∀ (M : zRs), sTk (yT D (fun _ => 12)) N M0 M 60 → zS (l, mX13_spend, dd, Po, K0, h0, Xo, Gc) 0 0 253 [(0, .ref mo), (1, .int (nI am)), (2, .int (nI k)), (3, .int (nI mi)), (4, .int (nI ah)), (5, .int cc)] [] [(mo, .inr (11, fMo e (mg g M.1) w)), ((e 14), .inl (0, 800, .inl nw)), ((e 24), .inl (0, 12, .inl (nF (M.2 24)))), ((e 25), .inl (0, 12, .inl (nF (M.2 25)))), ((e 26), .inl (0, 12, .inl (nF (M.2 26)))), ((e 27), .inl (0, 12, .inl (nF (M.2 27)))), ((e 28), .inl (0, 360, .inl (nF (M.2 28)))), ((e 29), .inl (0, 12, .inl (nF (M.2 29)))), ((e 30), .inl (0, 12, .inl (nF (M.2 30)))), ((e 31), .inl (0, 30, .inl (nF (M.2 31)))), ((e 32), .inl (0, 12, .inl (nF (M.2 32)))), ((e 64), .inl (0, 64, .inl (S.1))), ((e 65), .inl (0, 64, .inl (S.2.2))), ((e 66), .inl (0, 64, .inl (S.2.1))), ((e 67), .inl (0, 64, .inl he)), ((e 85), .inl (0, 240, .inl nt))]) :
    ∀ (m i : Nat) (M : zRs), i + m = 60 → sTk (yT D (fun _ => 12)) N M0 M i → zS (l, mX13_spend, dd, Po, K0, h0, Xo, Gc) 0 0 236 [(0, .ref mo), (1, .int (nI am)), (2, .int (nI k)), (3, .int (nI mi)), (4, .int (nI ah)), (5, .int cc), (6, .int (nI i))] [] [(mo, .inr (11, fMo e (mg g M.1) w)), ((e 14), .inl (0, 800, .inl nw)), ((e 24), .inl (0, 12, .inl (nF (M.2 24)))), ((e 25), .inl (0, 12, .inl (nF (M.2 25)))), ((e 26), .inl (0, 12, .inl (nF (M.2 26)))), ((e 27), .inl (0, 12, .inl (nF (M.2 27)))), ((e 28), .inl (0, 360, .inl (nF (M.2 28)))), ((e 29), .inl (0, 12, .inl (nF (M.2 29)))), ((e 30), .inl (0, 12, .inl (nF (M.2 30)))), ((e 31), .inl (0, 30, .inl (nF (M.2 31)))), ((e 32), .inl (0, 12, .inl (nF (M.2 32)))), ((e 64), .inl (0, 64, .inl (S.1))), ((e 65), .inl (0, 64, .inl (S.2.2))), ((e 66), .inl (0, 64, .inl (S.2.1))), ((e 67), .inl (0, 64, .inl he)), ((e 85), .inl (0, 240, .inl nt))] := by
  intro m
  induction m with
  | zero =>
    intro i M hi hT
    refine zs_iload dX13_spend_236 rfl ?_
    refine zs_bipush (v := nI 60) dX13_spend_238 (by decide) ?_
    refine zs_icmp_ge (tgt := 253) dX13_spend_240 (by decide) (fun c_1 => ?_) (fun c_1 => (c_1 (by rw [show i = 60 by omega]; exact Int32.le_refl _) : False).elim)
    rw [show i = 60 by omega] at hT
    refine zs_lv [0, 1, 2, 3, 4, 5] rfl ?_
    exact hk2 M hT
  | succ m ih =>
    intro i M hi hT
    refine zs_iload dX13_spend_236 rfl ?_
    refine zs_bipush (v := nI 60) dX13_spend_238 (by decide) ?_
    refine zs_icmp_ge (tgt := 253) dX13_spend_240 (by decide) (fun c_1 => (nI_ge (show i < 60 by omega) (by omega) c_1 : False).elim) (fun c_1 => ?_)
    refine zs_aload_n dX13_spend_243 rfl rfl ?_
    refine zs_callV (M := mX13_teamTick) (As := []) (st := []) (Kc := [(mo, .inr (11, fMo e (mg g M.1) w)), ((e 14), .inl (0, 800, .inl nw)), ((e 24), .inl (0, 12, .inl (nF (M.2 24)))), ((e 25), .inl (0, 12, .inl (nF (M.2 25)))), ((e 26), .inl (0, 12, .inl (nF (M.2 26)))), ((e 27), .inl (0, 12, .inl (nF (M.2 27)))), ((e 28), .inl (0, 360, .inl (nF (M.2 28)))), ((e 29), .inl (0, 12, .inl (nF (M.2 29)))), ((e 30), .inl (0, 12, .inl (nF (M.2 30)))), ((e 31), .inl (0, 30, .inl (nF (M.2 31)))), ((e 32), .inl (0, 12, .inl (nF (M.2 32))))]) (Kr := [((e 64), .inl (0, 64, .inl (S.1))), ((e 65), .inl (0, 64, .inl (S.2.2))), ((e 66), .inl (0, 64, .inl (S.2.1))), ((e 67), .inl (0, 64, .inl he)), ((e 85), .inl (0, 240, .inl nt))]) [0, 1, 2, 3, 4, 5, 6, 7, 8, 9, 10] [11, 12, 13, 14, 15] 0 dX13_spend_244 zl_RX13_369 kX13_teamTick rfl rfl rfl rfl rfl (by decide) rfl rfl (show dd - 1 + 1 ≤ dd by omega) (Nat.zero_le _) (Nat.zero_le _) (Nat.le_of_ble_eq_true rfl) (s_tTick1 l (dd - 1) mo e g w nw (yT D (fun _ => 12)) M (by omega) hR (yI_t hD) h34 (cWork (D.1 11) (D.1 10) (D.1 7) D.2.2.2.2.2.1 i N.2.2.2.1) (D.1 6) (tj + i) (cWork_pails hJ hD.2.2.2.2.2.2.2.2.2.2.1.2 hD.2.2.2.2.2.2.2.2.2.2.2.1.2 i (by omega)) hD.2.2.2.2.2.2.2.2.2.2.1.2 (by omega) (hT.2.1 hN)) (fun r K1 hr => ?_)
    obtain ⟨rfl, M2, hM2, rfl⟩ := hr
    refine zs_K (K' := [(mo, .inr (11, fMo e (mg g M2.1) w)), ((e 14), .inl (0, 800, .inl nw)), ((e 24), .inl (0, 12, .inl (nF (M2.2 24)))), ((e 25), .inl (0, 12, .inl (nF (M2.2 25)))), ((e 26), .inl (0, 12, .inl (nF (M2.2 26)))), ((e 27), .inl (0, 12, .inl (nF (M2.2 27)))), ((e 28), .inl (0, 360, .inl (nF (M2.2 28)))), ((e 29), .inl (0, 12, .inl (nF (M2.2 29)))), ((e 30), .inl (0, 12, .inl (nF (M2.2 30)))), ((e 31), .inl (0, 30, .inl (nF (M2.2 31)))), ((e 32), .inl (0, 12, .inl (nF (M2.2 32)))), ((e 64), .inl (0, 64, .inl (S.1))), ((e 65), .inl (0, 64, .inl (S.2.2))), ((e 66), .inl (0, 64, .inl (S.2.1))), ((e 67), .inl (0, 64, .inl he)), ((e 85), .inl (0, 240, .inl nt))]) [5, 6, 7, 8, 9, 10, 11, 12, 13, 14, 15, 0, 1, 2, 3, 4] rfl (by decide) ?_
    refine zs_iinc (v := (nI (i + 1))) (lv' := [(6, .int (nI (i + 1))), (0, .ref mo), (1, .int (nI am)), (2, .int (nI k)), (3, .int (nI mi)), (4, .int (nI ah)), (5, .int cc)]) dX13_spend_247 rfl (nI_add _ 1) (Nat.le_of_ble_eq_true rfl) rfl ?_
    refine zs_goto (tgt := 236) dX13_spend_250 (by decide) ?_
    refine zs_lv [1, 2, 3, 4, 5, 6, 0] rfl ?_
    exact ih (i + 1) _ (by omega) ⟨fun e => absurd e (by omega), fun _ => hM2, fun e => absurd e (by omega)⟩
set_option maxRecDepth 100000 in
theorem lp_mtick2 {l : Launch} {dd : Nat} {Po : zPo} {K0 : zK} {h0 : List va_E} {Xo : zK → Prop} {Gc : zG → Prop} (mo : Nat) (e : Nat → Nat) (g : Nat → Int32) (w : Int64) (nw : Nat → Int32) (D : zYd) (S : zFs) (he nt : Nat → Int32) (am k mi ah : Nat) (cc : Int32) (N : zNi) (M0 : zRs) (tq : Nat) (hd : 6 ≤ dd) (hR : yR D nw) (hC : D.1 14 ≤ 8) (hRo : D.1 15 ≤ 8) (hD : yI D) (h34 : g 34 = nI 2) (hN : N.1 = 2) (htq : tq + 60 ≤ 3600)
    (hk2 : ∀ (M : zRs), sTk (yT D (fun _ => 12)) N M0 M 60 → zS (l, mX13_spend, dd, Po, K0, h0, Xo, Gc) 0 0 253 [(0, .ref mo), (1, .int (nI am)), (2, .int (nI k)), (3, .int (nI mi)), (4, .int (nI ah)), (5, .int cc)] [] [(mo, .inr (11, fMo e (mg g M.1) w)), ((e 14), .inl (0, 800, .inl nw)), ((e 24), .inl (0, 12, .inl (nF (M.2 24)))), ((e 25), .inl (0, 12, .inl (nF (M.2 25)))), ((e 26), .inl (0, 12, .inl (nF (M.2 26)))), ((e 27), .inl (0, 12, .inl (nF (M.2 27)))), ((e 28), .inl (0, 360, .inl (nF (M.2 28)))), ((e 29), .inl (0, 12, .inl (nF (M.2 29)))), ((e 30), .inl (0, 12, .inl (nF (M.2 30)))), ((e 31), .inl (0, 30, .inl (nF (M.2 31)))), ((e 32), .inl (0, 12, .inl (nF (M.2 32)))), ((e 64), .inl (0, 64, .inl (S.1))), ((e 65), .inl (0, 64, .inl (S.2.2))), ((e 66), .inl (0, 64, .inl (S.2.1))), ((e 67), .inl (0, 64, .inl he)), ((e 85), .inl (0, 240, .inl nt))]) :
    ∀ (m i : Nat) (M : zRs), i + m = 60 → sTk (yT D (fun _ => 12)) N M0 M i → zS (l, mX13_spend, dd, Po, K0, h0, Xo, Gc) 0 0 236 [(0, .ref mo), (1, .int (nI am)), (2, .int (nI k)), (3, .int (nI mi)), (4, .int (nI ah)), (5, .int cc), (6, .int (nI i))] [] [(mo, .inr (11, fMo e (mg g M.1) w)), ((e 14), .inl (0, 800, .inl nw)), ((e 24), .inl (0, 12, .inl (nF (M.2 24)))), ((e 25), .inl (0, 12, .inl (nF (M.2 25)))), ((e 26), .inl (0, 12, .inl (nF (M.2 26)))), ((e 27), .inl (0, 12, .inl (nF (M.2 27)))), ((e 28), .inl (0, 360, .inl (nF (M.2 28)))), ((e 29), .inl (0, 12, .inl (nF (M.2 29)))), ((e 30), .inl (0, 12, .inl (nF (M.2 30)))), ((e 31), .inl (0, 30, .inl (nF (M.2 31)))), ((e 32), .inl (0, 12, .inl (nF (M.2 32)))), ((e 64), .inl (0, 64, .inl (S.1))), ((e 65), .inl (0, 64, .inl (S.2.2))), ((e 66), .inl (0, 64, .inl (S.2.1))), ((e 67), .inl (0, 64, .inl he)), ((e 85), .inl (0, 240, .inl nt))] := by
  intro m
  induction m with
  | zero =>
    intro i M hi hT
    refine zs_iload dX13_spend_236 rfl ?_
    refine zs_bipush (v := nI 60) dX13_spend_238 (by decide) ?_
    refine zs_icmp_ge (tgt := 253) dX13_spend_240 (by decide) (fun c_1 => ?_) (fun c_1 => (c_1 (by rw [show i = 60 by omega]; exact Int32.le_refl _) : False).elim)
    rw [show i = 60 by omega] at hT
    refine zs_lv [0, 1, 2, 3, 4, 5] rfl ?_
    exact hk2 M hT
  | succ m ih =>
    intro i M hi hT
    refine zs_iload dX13_spend_236 rfl ?_
    refine zs_bipush (v := nI 60) dX13_spend_238 (by decide) ?_
    refine zs_icmp_ge (tgt := 253) dX13_spend_240 (by decide) (fun c_1 => (nI_ge (show i < 60 by omega) (by omega) c_1 : False).elim) (fun c_1 => ?_)
    refine zs_aload_n dX13_spend_243 rfl rfl ?_
    refine zs_callV (M := mX13_teamTick) (As := []) (st := []) (Kc := [(mo, .inr (11, fMo e (mg g M.1) w)), ((e 14), .inl (0, 800, .inl nw)), ((e 24), .inl (0, 12, .inl (nF (M.2 24)))), ((e 25), .inl (0, 12, .inl (nF (M.2 25)))), ((e 26), .inl (0, 12, .inl (nF (M.2 26)))), ((e 27), .inl (0, 12, .inl (nF (M.2 27)))), ((e 28), .inl (0, 360, .inl (nF (M.2 28)))), ((e 29), .inl (0, 12, .inl (nF (M.2 29)))), ((e 30), .inl (0, 12, .inl (nF (M.2 30)))), ((e 31), .inl (0, 30, .inl (nF (M.2 31)))), ((e 32), .inl (0, 12, .inl (nF (M.2 32))))]) (Kr := [((e 64), .inl (0, 64, .inl (S.1))), ((e 65), .inl (0, 64, .inl (S.2.2))), ((e 66), .inl (0, 64, .inl (S.2.1))), ((e 67), .inl (0, 64, .inl he)), ((e 85), .inl (0, 240, .inl nt))]) [0, 1, 2, 3, 4, 5, 6, 7, 8, 9, 10] [11, 12, 13, 14, 15] 0 dX13_spend_244 zl_RX13_369 kX13_teamTick rfl rfl rfl rfl rfl (by decide) rfl rfl (show dd - 1 + 1 ≤ dd by omega) (Nat.zero_le _) (Nat.zero_le _) (Nat.le_of_ble_eq_true rfl) (s_tTick2 l (dd - 1) mo e g w nw (yT D (fun _ => 12)) M (by omega) hR (yI_t hD) h34 (rWork (D.1 7) (D.1 8) N.2.2.2.2.1 i) (hT.2.2 hN)) (fun r K1 hr => ?_)
    obtain ⟨rfl, M2, hM2, rfl⟩ := hr
    refine zs_K (K' := [(mo, .inr (11, fMo e (mg g M2.1) w)), ((e 14), .inl (0, 800, .inl nw)), ((e 24), .inl (0, 12, .inl (nF (M2.2 24)))), ((e 25), .inl (0, 12, .inl (nF (M2.2 25)))), ((e 26), .inl (0, 12, .inl (nF (M2.2 26)))), ((e 27), .inl (0, 12, .inl (nF (M2.2 27)))), ((e 28), .inl (0, 360, .inl (nF (M2.2 28)))), ((e 29), .inl (0, 12, .inl (nF (M2.2 29)))), ((e 30), .inl (0, 12, .inl (nF (M2.2 30)))), ((e 31), .inl (0, 30, .inl (nF (M2.2 31)))), ((e 32), .inl (0, 12, .inl (nF (M2.2 32)))), ((e 64), .inl (0, 64, .inl (S.1))), ((e 65), .inl (0, 64, .inl (S.2.2))), ((e 66), .inl (0, 64, .inl (S.2.1))), ((e 67), .inl (0, 64, .inl he)), ((e 85), .inl (0, 240, .inl nt))]) [5, 6, 7, 8, 9, 10, 11, 12, 13, 14, 15, 0, 1, 2, 3, 4] rfl (by decide) ?_
    refine zs_iinc (v := (nI (i + 1))) (lv' := [(6, .int (nI (i + 1))), (0, .ref mo), (1, .int (nI am)), (2, .int (nI k)), (3, .int (nI mi)), (4, .int (nI ah)), (5, .int cc)]) dX13_spend_247 rfl (nI_add _ 1) (Nat.le_of_ble_eq_true rfl) rfl ?_
    refine zs_goto (tgt := 236) dX13_spend_250 (by decide) ?_
    refine zs_lv [1, 2, 3, 4, 5, 6, 0] rfl ?_
    exact ih (i + 1) _ (by omega) ⟨fun e => absurd e (by omega), fun e => absurd e (by omega), fun _ => hM2⟩
theorem lp_mticks {l : Launch} {dd : Nat} {Po : zPo} {K0 : zK} {h0 : List va_E} {Xo : zK → Prop} {Gc : zG → Prop} (mo : Nat) (e : Nat → Nat) (g : Nat → Int32) (w : Int64) (nw : Nat → Int32) (D : zYd) (S : zFs) (he nt : Nat → Int32) (am k mi ah : Nat) (cc : Int32) (N : zNi) (M : zRs) (tq : Nat) (hd : 6 ≤ dd) (hR : yR D nw) (hC : D.1 14 ≤ 8) (hRo : D.1 15 ≤ 8) (hD : yI D) (h34 : g 34 = nI N.1) (hQ : sQ (yT D (fun _ => 12)) tq N M) (htq : tq + 60 ≤ 3600) (hk2 : ∀ (M' : zRs), sTk (yT D (fun _ => 12)) N M M' 60 → zS (l, mX13_spend, dd, Po, K0, h0, Xo, Gc) 0 0 253 [(0, .ref mo), (1, .int (nI am)), (2, .int (nI k)), (3, .int (nI mi)), (4, .int (nI ah)), (5, .int cc)] [] [(mo, .inr (11, fMo e (mg g M'.1) w)), ((e 14), .inl (0, 800, .inl nw)), ((e 24), .inl (0, 12, .inl (nF (M'.2 24)))), ((e 25), .inl (0, 12, .inl (nF (M'.2 25)))), ((e 26), .inl (0, 12, .inl (nF (M'.2 26)))), ((e 27), .inl (0, 12, .inl (nF (M'.2 27)))), ((e 28), .inl (0, 360, .inl (nF (M'.2 28)))), ((e 29), .inl (0, 12, .inl (nF (M'.2 29)))), ((e 30), .inl (0, 12, .inl (nF (M'.2 30)))), ((e 31), .inl (0, 30, .inl (nF (M'.2 31)))), ((e 32), .inl (0, 12, .inl (nF (M'.2 32)))), ((e 64), .inl (0, 64, .inl (S.1))), ((e 65), .inl (0, 64, .inl (S.2.2))), ((e 66), .inl (0, 64, .inl (S.2.1))), ((e 67), .inl (0, 64, .inl he)), ((e 85), .inl (0, 240, .inl nt))]) : zS (l, mX13_spend, dd, Po, K0, h0, Xo, Gc) 0 0 236 [(0, .ref mo), (1, .int (nI am)), (2, .int (nI k)), (3, .int (nI mi)), (4, .int (nI ah)), (5, .int cc), (6, .int (nI 0))] [] [(mo, .inr (11, fMo e (mg g M.1) w)), ((e 14), .inl (0, 800, .inl nw)), ((e 24), .inl (0, 12, .inl (nF (M.2 24)))), ((e 25), .inl (0, 12, .inl (nF (M.2 25)))), ((e 26), .inl (0, 12, .inl (nF (M.2 26)))), ((e 27), .inl (0, 12, .inl (nF (M.2 27)))), ((e 28), .inl (0, 360, .inl (nF (M.2 28)))), ((e 29), .inl (0, 12, .inl (nF (M.2 29)))), ((e 30), .inl (0, 12, .inl (nF (M.2 30)))), ((e 31), .inl (0, 30, .inl (nF (M.2 31)))), ((e 32), .inl (0, 12, .inl (nF (M.2 32)))), ((e 64), .inl (0, 64, .inl (S.1))), ((e 65), .inl (0, 64, .inl (S.2.2))), ((e 66), .inl (0, 64, .inl (S.2.1))), ((e 67), .inl (0, 64, .inl he)), ((e 85), .inl (0, 240, .inl nt))] := by
  have hw := hQ.1.2.1
  have hN : N.1 = 0 ∨ N.1 = 1 ∨ N.1 = 2 := by omega
  rcases hN with e0 | e0 | e0
  · rw [e0] at h34
    exact lp_mtick0 mo e g w nw D S he nt am k mi ah cc N M tq hd hR hC hRo hD h34 e0 htq hk2 60 0 M (Nat.zero_add _) (sTk_0 hQ)
  · rw [e0] at h34
    obtain ⟨-, ⟨tj, h1, h2⟩, -⟩ := hQ.2.2.2.1 e0
    exact lp_mtick1 mo e g w nw D S he nt am k mi ah cc N M tq tj hd hR hC hRo hD h34 e0 htq h1 h2 hk2 60 0 M (Nat.zero_add _) (sTk_0 hQ)
  · rw [e0] at h34
    exact lp_mtick2 mo e g w nw D S he nt am k mi ah cc N M tq hd hR hC hRo hD h34 e0 htq hk2 60 0 M (Nat.zero_add _) (sTk_0 hQ)
