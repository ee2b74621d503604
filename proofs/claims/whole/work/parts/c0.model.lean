/-! ===== the reference: period, running ===== -/
theorem dX13_periodOf_0 : decode cX13_periodOf 0 = .ok (.iconst 0, 1) := by decide +kernel
theorem dX13_periodOf_1 : decode cX13_periodOf 1 = .ok (.istore_n 2, 1) := by decide +kernel
theorem dX13_periodOf_2 : decode cX13_periodOf 2 = .ok (.iconst 0, 1) := by decide +kernel
theorem dX13_periodOf_3 : decode cX13_periodOf 3 = .ok (.istore_n 3, 1) := by decide +kernel
theorem dX13_periodOf_4 : decode cX13_periodOf 4 = .ok (.iload_n 3, 1) := by decide +kernel
theorem dX13_periodOf_5 : decode cX13_periodOf 5 = .ok (.iload_n 1, 1) := by decide +kernel
theorem dX13_periodOf_6 : decode cX13_periodOf 6 = .ok (.if_icmp .ge 38, 3) := by decide +kernel
theorem dX13_periodOf_9 : decode cX13_periodOf 9 = .ok (.aload_n 0, 1) := by decide +kernel
theorem dX13_periodOf_10 : decode cX13_periodOf 10 = .ok (.iload_n 3, 1) := by decide +kernel
theorem dX13_periodOf_11 : decode cX13_periodOf 11 = .ok (.iload_n 1, 1) := by decide +kernel
theorem dX13_periodOf_12 : decode cX13_periodOf 12 = .ok (.aload_n 0, 1) := by decide +kernel
theorem dX13_periodOf_13 : decode cX13_periodOf 13 = .ok (.getfield 39, 3) := by decide +kernel
theorem dX13_periodOf_16 : decode cX13_periodOf 16 = .ok (.iload_n 3, 1) := by decide +kernel
theorem dX13_periodOf_17 : decode cX13_periodOf 17 = .ok (.iaload, 1) := by decide +kernel
theorem dX13_periodOf_18 : decode cX13_periodOf 18 = .ok (.invokevirtual 347, 3) := by decide +kernel
theorem dX13_periodOf_21 : decode cX13_periodOf 21 = .ok (.iload_n 2, 1) := by decide +kernel
theorem dX13_periodOf_22 : decode cX13_periodOf 22 = .ok (.if_icmp .le 16, 3) := by decide +kernel
theorem dX13_periodOf_25 : decode cX13_periodOf 25 = .ok (.aload_n 0, 1) := by decide +kernel
theorem dX13_periodOf_26 : decode cX13_periodOf 26 = .ok (.iload_n 3, 1) := by decide +kernel
theorem dX13_periodOf_27 : decode cX13_periodOf 27 = .ok (.iload_n 1, 1) := by decide +kernel
theorem dX13_periodOf_28 : decode cX13_periodOf 28 = .ok (.aload_n 0, 1) := by decide +kernel
theorem dX13_periodOf_29 : decode cX13_periodOf 29 = .ok (.getfield 39, 3) := by decide +kernel
theorem dX13_periodOf_32 : decode cX13_periodOf 32 = .ok (.iload_n 3, 1) := by decide +kernel
theorem dX13_periodOf_33 : decode cX13_periodOf 33 = .ok (.iaload, 1) := by decide +kernel
theorem dX13_periodOf_34 : decode cX13_periodOf 34 = .ok (.invokevirtual 347, 3) := by decide +kernel
theorem dX13_periodOf_37 : decode cX13_periodOf 37 = .ok (.istore_n 2, 1) := by decide +kernel
theorem dX13_periodOf_38 : decode cX13_periodOf 38 = .ok (.iinc 3 1, 3) := by decide +kernel
theorem dX13_periodOf_41 : decode cX13_periodOf 41 = .ok (.goto (-37), 3) := by decide +kernel
theorem dX13_periodOf_44 : decode cX13_periodOf 44 = .ok (.iload_n 2, 1) := by decide +kernel
theorem dX13_periodOf_45 : decode cX13_periodOf 45 = .ok (.ireturn, 1) := by decide +kernel
theorem dX13_period_0 : decode cX13_period 0 = .ok (.aload_n 0, 1) := by decide +kernel
theorem dX13_period_1 : decode cX13_period 1 = .ok (.iconst 0, 1) := by decide +kernel
theorem dX13_period_2 : decode cX13_period 2 = .ok (.putfield 148, 3) := by decide +kernel
theorem dX13_period_5 : decode cX13_period 5 = .ok (.aload_n 0, 1) := by decide +kernel
theorem dX13_period_6 : decode cX13_period 6 = .ok (.iconst 2, 1) := by decide +kernel
theorem dX13_period_7 : decode cX13_period 7 = .ok (.bipush 12, 2) := by decide +kernel
theorem dX13_period_9 : decode cX13_period 9 = .ok (.iconst 1, 1) := by decide +kernel
theorem dX13_period_10 : decode cX13_period 10 = .ok (.invokevirtual 372, 3) := by decide +kernel
theorem dX13_period_13 : decode cX13_period 13 = .ok (.ifCond .eq 14, 3) := by decide +kernel
theorem dX13_period_16 : decode cX13_period 16 = .ok (.aload_n 0, 1) := by decide +kernel
theorem dX13_period_17 : decode cX13_period 17 = .ok (.aload_n 0, 1) := by decide +kernel
theorem dX13_period_18 : decode cX13_period 18 = .ok (.getfield 304, 3) := by decide +kernel
theorem dX13_period_21 : decode cX13_period 21 = .ok (.invokevirtual 383, 3) := by decide +kernel
theorem dX13_period_24 : decode cX13_period 24 = .ok (.goto 4, 3) := by decide +kernel
theorem dX13_period_27 : decode cX13_period 27 = .ok (.iconst (-1), 1) := by decide +kernel
theorem dX13_period_28 : decode cX13_period 28 = .ok (.ireturn, 1) := by decide +kernel
theorem dX13_running_0 : decode cX13_running 0 = .ok (.aload_n 0, 1) := by decide +kernel
theorem dX13_running_1 : decode cX13_running 1 = .ok (.iconst 0, 1) := by decide +kernel
theorem dX13_running_2 : decode cX13_running 2 = .ok (.putfield 148, 3) := by decide +kernel
theorem dX13_running_5 : decode cX13_running 5 = .ok (.aload_n 0, 1) := by decide +kernel
theorem dX13_running_6 : decode cX13_running 6 = .ok (.iconst 1, 1) := by decide +kernel
theorem dX13_running_7 : decode cX13_running 7 = .ok (.bipush 12, 2) := by decide +kernel
theorem dX13_running_9 : decode cX13_running 9 = .ok (.iconst 1, 1) := by decide +kernel
theorem dX13_running_10 : decode cX13_running 10 = .ok (.invokevirtual 372, 3) := by decide +kernel
theorem dX13_running_13 : decode cX13_running 13 = .ok (.ifCond .eq 14, 3) := by decide +kernel
theorem dX13_running_16 : decode cX13_running 16 = .ok (.iload_n 1, 1) := by decide +kernel
theorem dX13_running_17 : decode cX13_running 17 = .ok (.iconst 0, 1) := by decide +kernel
theorem dX13_running_18 : decode cX13_running 18 = .ok (.sipush 3600, 3) := by decide +kernel
theorem dX13_running_21 : decode cX13_running 21 = .ok (.invokestatic 219, 3) := by decide +kernel
theorem dX13_running_24 : decode cX13_running 24 = .ok (.ifCond .ne 5, 3) := by decide +kernel
theorem dX13_running_27 : decode cX13_running 27 = .ok (.iconst (-1), 1) := by decide +kernel
theorem dX13_running_28 : decode cX13_running 28 = .ok (.ireturn, 1) := by decide +kernel
theorem dX13_running_29 : decode cX13_running 29 = .ok (.aload_n 0, 1) := by decide +kernel
theorem dX13_running_30 : decode cX13_running 30 = .ok (.iconst 2, 1) := by decide +kernel
theorem dX13_running_31 : decode cX13_running 31 = .ok (.aload_n 0, 1) := by decide +kernel
theorem dX13_running_32 : decode cX13_running 32 = .ok (.getfield 304, 3) := by decide +kernel
theorem dX13_running_35 : decode cX13_running 35 = .ok (.aload_n 0, 1) := by decide +kernel
theorem dX13_running_36 : decode cX13_running 36 = .ok (.getfield 13, 3) := by decide +kernel
theorem dX13_running_39 : decode cX13_running 39 = .ok (.iconst 5, 1) := by decide +kernel
theorem dX13_running_40 : decode cX13_running 40 = .ok (.iaload, 1) := by decide +kernel
theorem dX13_running_41 : decode cX13_running 41 = .ok (.iload_n 1, 1) := by decide +kernel
theorem dX13_running_42 : decode cX13_running 42 = .ok (.invokevirtual 376, 3) := by decide +kernel
theorem dX13_running_45 : decode cX13_running 45 = .ok (.ireturn, 1) := by decide +kernel
set_option maxRecDepth 100000 in
theorem lp_mpo {l : Launch} {dd : Nat} {Po : zPo} {K0 : zK} {h0 : List va_E} {Xo : zK → Prop} {Gc : zG → Prop} (mo : Nat) (e : Nat → Nat) (g : Nat → Int32) (w : Int64) (nw : Nat → Int32) (D : zYd) (M : zRs) (f : Nat → Nat) (n : Nat) (hd : 3 ≤ dd) (hR : yR D nw) (hD : yI D) (hn : 2 ≤ n ∧ n ≤ 12) (hft : ∀ p, p < n → M.2 24 p = f p) (hfD : ∀ p, p < n → f p < D.1 0) (hP : ∀ r K', (r = some (.int (nI (pPd D f n n))) ∧ K' = kTm mo e g w nw M) → Po r K') : ∀ (m k : Nat), k + m = n → zS (l, mX13_periodOf, dd, Po, K0, h0, Xo, Gc) 0 0 4 [(0, .ref mo), (1, .int (nI n)), (2, .int (nI (pPd D f n k))), (3, .int (nI k))] [] [(mo, .inr (11, fMo e (mg g M.1) w)), ((e 14), .inl (0, 800, .inl nw)), ((e 24), .inl (0, 12, .inl (nF (M.2 24)))), ((e 25), .inl (0, 12, .inl (nF (M.2 25)))), ((e 26), .inl (0, 12, .inl (nF (M.2 26)))), ((e 27), .inl (0, 12, .inl (nF (M.2 27)))), ((e 28), .inl (0, 360, .inl (nF (M.2 28)))), ((e 29), .inl (0, 12, .inl (nF (M.2 29)))), ((e 30), .inl (0, 12, .inl (nF (M.2 30)))), ((e 31), .inl (0, 30, .inl (nF (M.2 31)))), ((e 32), .inl (0, 12, .inl (nF (M.2 32))))] := by
  intro m
  induction m with
  | zero =>
    intro k hi
    refine zs_iload_n dX13_periodOf_4 rfl ?_
    refine zs_iload_n dX13_periodOf_5 rfl ?_
    refine zs_icmp_ge (tgt := 44) dX13_periodOf_6 (by decide) (fun c_1 => ?_) (fun c_1 => (c_1 (by rw [show k = n by omega]; exact Int32.le_refl _) : False).elim)
    refine zs_iload_n dX13_periodOf_44 rfl ?_
    exact zs_iret dX13_periodOf_45 rfl (hP _ _ ⟨by rw [show k = n by omega], rfl⟩)
  | succ m ih =>
    intro k hi
    refine zs_iload_n dX13_periodOf_4 rfl ?_
    refine zs_iload_n dX13_periodOf_5 rfl ?_
    refine zs_icmp_ge (tgt := 44) dX13_periodOf_6 (by decide) (fun c_1 => (nI_ge (show k < n by omega) (by omega) c_1 : False).elim) (fun c_1 => ?_)
    have hm := hfD k (by omega)
    have hpd := pPd_le (f := f) hD hn.1 k
    have hti : nTime D.1 D.2.2.2.1 (f k) k n ≤ 100 := nTime_le hD.2.2.2.2.2.2.2.2.2.1.2 hD.2.2.2.2.2.2.2.2.2.2.2.2.1.2 hD.2.2.2.2.2.2.2.2.2.2.2.2.2.2.2.2.1.2 hn.1 (hD.2.2.2.2.2.2.2.1 (f k)).1
    refine zs_aload_n dX13_periodOf_9 rfl rfl ?_
    refine zs_iload_n dX13_periodOf_10 rfl ?_
    refine zs_iload_n dX13_periodOf_11 rfl ?_
    refine zs_aload_n dX13_periodOf_12 rfl rfl ?_
    refine zs_get 0 dX13_periodOf_13 zf_RX13_39 rfl (v := .ref (e 24)) rfl ?_
    refine zs_iload_n dX13_periodOf_16 rfl ?_
    refine zs_iald 2 dX13_periodOf_17 rfl (vp_in_nI (by omega) (by omega)) ?_
    refine zs_as (y := nI (f k)) (by rw [nI_c (n := k) (by omega)]; exact congrArg nI (hft k (by omega))) ?_
    refine zs_callV (M := mX13_timeOf) (As := [.int (nI k), .int (nI n), .int (nI (f k))]) (st := []) (Kc := [(mo, .inr (11, fMo e (mg g M.1) w)), ((e 14), .inl (0, 800, .inl nw))]) (Kr := [((e 24), .inl (0, 12, .inl (nF (M.2 24)))), ((e 25), .inl (0, 12, .inl (nF (M.2 25)))), ((e 26), .inl (0, 12, .inl (nF (M.2 26)))), ((e 27), .inl (0, 12, .inl (nF (M.2 27)))), ((e 28), .inl (0, 360, .inl (nF (M.2 28)))), ((e 29), .inl (0, 12, .inl (nF (M.2 29)))), ((e 30), .inl (0, 12, .inl (nF (M.2 30)))), ((e 31), .inl (0, 30, .inl (nF (M.2 31)))), ((e 32), .inl (0, 12, .inl (nF (M.2 32))))]) [0, 1] [2, 3, 4, 5, 6, 7, 8, 9, 10] 0 dX13_periodOf_18 zl_RX13_347 kX13_timeOf rfl rfl rfl rfl rfl (by decide) rfl rfl (show dd - 1 + 1 ≤ dd by omega) (Nat.zero_le _) (Nat.zero_le _) (Nat.le_of_ble_eq_true rfl) (s_mTimeOf l (dd - 1) mo e (mg g M.1) w nw D k n (f k) (by omega) hR hD (by omega) (by omega) hm) (fun r K1 hr => ?_)
    obtain ⟨rfl, rfl⟩ := hr
    refine zs_K (K' := [(mo, .inr (11, fMo e (mg g M.1) w)), ((e 14), .inl (0, 800, .inl nw)), ((e 24), .inl (0, 12, .inl (nF (M.2 24)))), ((e 25), .inl (0, 12, .inl (nF (M.2 25)))), ((e 26), .inl (0, 12, .inl (nF (M.2 26)))), ((e 27), .inl (0, 12, .inl (nF (M.2 27)))), ((e 28), .inl (0, 360, .inl (nF (M.2 28)))), ((e 29), .inl (0, 12, .inl (nF (M.2 29)))), ((e 30), .inl (0, 12, .inl (nF (M.2 30)))), ((e 31), .inl (0, 30, .inl (nF (M.2 31)))), ((e 32), .inl (0, 12, .inl (nF (M.2 32))))]) [9, 10, 0, 1, 2, 3, 4, 5, 6, 7, 8] rfl (by decide) ?_
    refine zs_iload_n dX13_periodOf_21 rfl ?_
    refine zs_icmp_le (tgt := 38) dX13_periodOf_22 (by decide) (fun c_2 => ?_) (fun c_2 => ?_)
    · have c_2 : (nTime D.1 D.2.2.2.1 (f k) k n) ≤ (pPd D f n k) := by have hc := c_2; rw [nI_le' (by omega) (by omega)] at hc; exact hc
      refine zs_iinc (v := (nI (k + 1))) (lv' := [(3, .int (nI (k + 1))), (0, .ref mo), (1, .int (nI n)), (2, .int (nI (pPd D f n k)))]) dX13_periodOf_38 rfl (nI_add _ 1) (Nat.le_of_ble_eq_true rfl) rfl ?_
      refine zs_goto (tgt := 4) dX13_periodOf_41 (by decide) ?_
      have hgo := ih (k + 1) (by omega)
      rw [show pPd D f n (k + 1) = pPd D f n k from Nat.max_eq_left (by omega)] at hgo
      refine zs_lv [1, 2, 3, 0] rfl ?_
      exact hgo
    · have c_2 : ¬ ((nTime D.1 D.2.2.2.1 (f k) k n) ≤ (pPd D f n k)) := by have hc := c_2; rw [nI_le' (by omega) (by omega)] at hc; exact hc
      refine zs_aload_n dX13_periodOf_25 rfl rfl ?_
      refine zs_iload_n dX13_periodOf_26 rfl ?_
      refine zs_iload_n dX13_periodOf_27 rfl ?_
      refine zs_aload_n dX13_periodOf_28 rfl rfl ?_
      refine zs_get 0 dX13_periodOf_29 zf_RX13_39 rfl (v := .ref (e 24)) rfl ?_
      refine zs_iload_n dX13_periodOf_32 rfl ?_
      refine zs_iald 2 dX13_periodOf_33 rfl (vp_in_nI (by omega) (by omega)) ?_
      refine zs_as (y := nI (f k)) (by rw [nI_c (n := k) (by omega)]; exact congrArg nI (hft k (by omega))) ?_
      refine zs_callV (M := mX13_timeOf) (As := [.int (nI k), .int (nI n), .int (nI (f k))]) (st := []) (Kc := [(mo, .inr (11, fMo e (mg g M.1) w)), ((e 14), .inl (0, 800, .inl nw))]) (Kr := [((e 24), .inl (0, 12, .inl (nF (M.2 24)))), ((e 25), .inl (0, 12, .inl (nF (M.2 25)))), ((e 26), .inl (0, 12, .inl (nF (M.2 26)))), ((e 27), .inl (0, 12, .inl (nF (M.2 27)))), ((e 28), .inl (0, 360, .inl (nF (M.2 28)))), ((e 29), .inl (0, 12, .inl (nF (M.2 29)))), ((e 30), .inl (0, 12, .inl (nF (M.2 30)))), ((e 31), .inl (0, 30, .inl (nF (M.2 31)))), ((e 32), .inl (0, 12, .inl (nF (M.2 32))))]) [0, 1] [2, 3, 4, 5, 6, 7, 8, 9, 10] 0 dX13_periodOf_34 zl_RX13_347 kX13_timeOf rfl rfl rfl rfl rfl (by decide) rfl rfl (show dd - 1 + 1 ≤ dd by omega) (Nat.zero_le _) (Nat.zero_le _) (Nat.le_of_ble_eq_true rfl) (s_mTimeOf l (dd - 1) mo e (mg g M.1) w nw D k n (f k) (by omega) hR hD (by omega) (by omega) hm) (fun r K1 hr => ?_)
      obtain ⟨rfl, rfl⟩ := hr
      refine zs_K (K' := [(mo, .inr (11, fMo e (mg g M.1) w)), ((e 14), .inl (0, 800, .inl nw)), ((e 24), .inl (0, 12, .inl (nF (M.2 24)))), ((e 25), .inl (0, 12, .inl (nF (M.2 25)))), ((e 26), .inl (0, 12, .inl (nF (M.2 26)))), ((e 27), .inl (0, 12, .inl (nF (M.2 27)))), ((e 28), .inl (0, 360, .inl (nF (M.2 28)))), ((e 29), .inl (0, 12, .inl (nF (M.2 29)))), ((e 30), .inl (0, 12, .inl (nF (M.2 30)))), ((e 31), .inl (0, 30, .inl (nF (M.2 31)))), ((e 32), .inl (0, 12, .inl (nF (M.2 32))))]) [9, 10, 0, 1, 2, 3, 4, 5, 6, 7, 8] rfl (by decide) ?_
      refine zs_istore_n (lv' := [(2, .int (nI (nTime D.1 D.2.2.2.1 (f k) k n))), (0, .ref mo), (1, .int (nI n)), (3, .int (nI k))]) dX13_periodOf_37 (Nat.le_of_ble_eq_true rfl) rfl ?_
      refine zs_iinc (v := (nI (k + 1))) (lv' := [(3, .int (nI (k + 1))), (2, .int (nI (nTime D.1 D.2.2.2.1 (f k) k n))), (0, .ref mo), (1, .int (nI n))]) dX13_periodOf_38 rfl (nI_add _ 1) (Nat.le_of_ble_eq_true rfl) rfl ?_
      refine zs_goto (tgt := 4) dX13_periodOf_41 (by decide) ?_
      have hgo := ih (k + 1) (by omega)
      rw [show pPd D f n (k + 1) = nTime D.1 D.2.2.2.1 (f k) k n from Nat.max_eq_right (by omega)] at hgo
      refine zs_lv [2, 3, 1, 0] rfl ?_
      exact hgo
set_option maxRecDepth 100000 in
theorem s_mPeriodOf (l : Launch) (dd : Nat) (mo : Nat) (e : Nat → Nat) (g : Nat → Int32) (w : Int64) (nw : Nat → Int32) (D : zYd) (M : zRs) (f : Nat → Nat) (n : Nat) (hd : 3 ≤ dd) (hR : yR D nw) (hD : yI D) (hn : 2 ≤ n ∧ n ≤ 12) (hft : ∀ p, p < n → M.2 24 p = f p) (hfD : ∀ p, p < n → f p < D.1 0) : zSp l mX13_periodOf dd 0 0 [.ref mo, .int (nI n)] [(mo, .inr (11, fMo e (mg g M.1) w)), ((e 14), .inl (0, 800, .inl nw)), ((e 24), .inl (0, 12, .inl (nF (M.2 24)))), ((e 25), .inl (0, 12, .inl (nF (M.2 25)))), ((e 26), .inl (0, 12, .inl (nF (M.2 26)))), ((e 27), .inl (0, 12, .inl (nF (M.2 27)))), ((e 28), .inl (0, 360, .inl (nF (M.2 28)))), ((e 29), .inl (0, 12, .inl (nF (M.2 29)))), ((e 30), .inl (0, 12, .inl (nF (M.2 30)))), ((e 31), .inl (0, 30, .inl (nF (M.2 31)))), ((e 32), .inl (0, 12, .inl (nF (M.2 32))))] (fun r K' => r = some (.int (nI (pPd D f n n))) ∧ K' = kTm mo e g w nw M) := by
  refine zSp.of (by decide) (Nat.le_of_ble_eq_true rfl) (fun h0 => ?_)
  show zS _ 0 0 0 [(0, .ref mo), (1, .int (nI n))] [] [(mo, .inr (11, fMo e (mg g M.1) w)), ((e 14), .inl (0, 800, .inl nw)), ((e 24), .inl (0, 12, .inl (nF (M.2 24)))), ((e 25), .inl (0, 12, .inl (nF (M.2 25)))), ((e 26), .inl (0, 12, .inl (nF (M.2 26)))), ((e 27), .inl (0, 12, .inl (nF (M.2 27)))), ((e 28), .inl (0, 360, .inl (nF (M.2 28)))), ((e 29), .inl (0, 12, .inl (nF (M.2 29)))), ((e 30), .inl (0, 12, .inl (nF (M.2 30)))), ((e 31), .inl (0, 30, .inl (nF (M.2 31)))), ((e 32), .inl (0, 12, .inl (nF (M.2 32))))]
  refine zs_iconst (v := nI 0) dX13_periodOf_0 (by decide) ?_
  refine zs_istore_n (lv' := [(2, .int (nI 0)), (0, .ref mo), (1, .int (nI n))]) dX13_periodOf_1 (Nat.le_of_ble_eq_true rfl) rfl ?_
  refine zs_iconst (v := nI 0) dX13_periodOf_2 (by decide) ?_
  refine zs_istore_n (lv' := [(3, .int (nI 0)), (2, .int (nI 0)), (0, .ref mo), (1, .int (nI n))]) dX13_periodOf_3 (Nat.le_of_ble_eq_true rfl) rfl ?_
  refine zs_lv [2, 3, 1, 0] rfl ?_
  exact lp_mpo mo e g w nw D M f n hd hR hD hn hft hfD (fun r K1 h => h) n 0 (Nat.zero_add _)
set_option maxRecDepth 100000 in
theorem s_mPeriod (l : Launch) (dd : Nat) (mo : Nat) (e : Nat → Nat) (g : Nat → Int32) (w : Int64) (nw : Nat → Int32) (D : zYd) (M : zRs) (bt : Nat → Nat) (n : Nat) (f : Nat → Nat) (hd : 5 ≤ dd) (hR : yR D (mLay g nw)) (hD : yI D) (hb : g 22 = 0 ∨ g 22 = 1) (h2 : g 2 = nI n) (hn : n ≤ 740) (hbt : ∀ j, bt j < 256) (hf : ∀ p, p < n → f p = bt p) : zSp l mX13_period dd 0 0 [.ref mo] [(mo, .inr (11, fMo e (mg g M.1) w)), ((e 14), .inl (0, 800, .inl nw)), ((e 24), .inl (0, 12, .inl (nF (M.2 24)))), ((e 25), .inl (0, 12, .inl (nF (M.2 25)))), ((e 26), .inl (0, 12, .inl (nF (M.2 26)))), ((e 27), .inl (0, 12, .inl (nF (M.2 27)))), ((e 28), .inl (0, 360, .inl (nF (M.2 28)))), ((e 29), .inl (0, 12, .inl (nF (M.2 29)))), ((e 30), .inl (0, 12, .inl (nF (M.2 30)))), ((e 31), .inl (0, 30, .inl (nF (M.2 31)))), ((e 32), .inl (0, 12, .inl (nF (M.2 32)))), ((e 1), .inl (0, 740, .inl (nF bt)))] (fun r K' => (pMn bt n (D.1 0) 2 12 = 0 ∧ r = some (.int (-1)) ∧ ∃ (g' : Nat → Int32) (M' : zRs), mFr [0, 2, 22, 33, 34, 35, 36, 37, 38, 39, 40, 41, 42] g g' ∧ g' 0 = nI 0 ∧ g' 2 = nI 0 ∧ g' 22 = 1 ∧ K' = [(mo, .inr (11, fMo e (mg g' M'.1) w)), ((e 14), .inl (0, 800, .inl (mLay g nw))), ((e 24), .inl (0, 12, .inl (nF (M'.2 24)))), ((e 25), .inl (0, 12, .inl (nF (M'.2 25)))), ((e 26), .inl (0, 12, .inl (nF (M'.2 26)))), ((e 27), .inl (0, 12, .inl (nF (M'.2 27)))), ((e 28), .inl (0, 360, .inl (nF (M'.2 28)))), ((e 29), .inl (0, 12, .inl (nF (M'.2 29)))), ((e 30), .inl (0, 12, .inl (nF (M'.2 30)))), ((e 31), .inl (0, 30, .inl (nF (M'.2 31)))), ((e 32), .inl (0, 12, .inl (nF (M'.2 32)))), ((e 1), .inl (0, 740, .inl (nF bt)))]) ∨ (¬ pMn bt n (D.1 0) 2 12 = 0 ∧ r = some (.int (nI (pPd D f n n))) ∧ ∃ (g' : Nat → Int32) (M' : zRs), mFr [0, 2, 22, 33, 34, 35, 36, 37, 38, 39, 40, 41, 42] g g' ∧ g' 0 = nI 0 ∧ g' 2 = nI 0 ∧ g' 22 = 1 ∧ K' = [(mo, .inr (11, fMo e (mg g' M'.1) w)), ((e 14), .inl (0, 800, .inl (mLay g nw))), ((e 24), .inl (0, 12, .inl (nF (M'.2 24)))), ((e 25), .inl (0, 12, .inl (nF (M'.2 25)))), ((e 26), .inl (0, 12, .inl (nF (M'.2 26)))), ((e 27), .inl (0, 12, .inl (nF (M'.2 27)))), ((e 28), .inl (0, 360, .inl (nF (M'.2 28)))), ((e 29), .inl (0, 12, .inl (nF (M'.2 29)))), ((e 30), .inl (0, 12, .inl (nF (M'.2 30)))), ((e 31), .inl (0, 30, .inl (nF (M'.2 31)))), ((e 32), .inl (0, 12, .inl (nF (M'.2 32)))), ((e 1), .inl (0, 740, .inl (nF bt)))])) := by
  refine zSp.of (by decide) (Nat.le_of_ble_eq_true rfl) (fun h0 => ?_)
  show zS _ 0 0 0 [(0, .ref mo)] [] [(mo, .inr (11, fMo e (mg g M.1) w)), ((e 14), .inl (0, 800, .inl nw)), ((e 24), .inl (0, 12, .inl (nF (M.2 24)))), ((e 25), .inl (0, 12, .inl (nF (M.2 25)))), ((e 26), .inl (0, 12, .inl (nF (M.2 26)))), ((e 27), .inl (0, 12, .inl (nF (M.2 27)))), ((e 28), .inl (0, 360, .inl (nF (M.2 28)))), ((e 29), .inl (0, 12, .inl (nF (M.2 29)))), ((e 30), .inl (0, 12, .inl (nF (M.2 30)))), ((e 31), .inl (0, 30, .inl (nF (M.2 31)))), ((e 32), .inl (0, 12, .inl (nF (M.2 32)))), ((e 1), .inl (0, 740, .inl (nF bt)))]
  refine zs_aload_n dX13_period_0 rfl rfl ?_
  refine zs_iconst (v := nI 0) dX13_period_1 (by decide) ?_
  refine zs_put 0 dX13_period_2 zf_RX13_148 rfl (Nat.le_of_ble_eq_true rfl) (zPv_i _) ?_
  show zS _ _ _ _ _ _ [(mo, .inr (11, fMo e (mg (upd g 0 (nI 0)) M.1) w)), ((e 14), .inl (0, 800, .inl nw)), ((e 24), .inl (0, 12, .inl (nF (M.2 24)))), ((e 25), .inl (0, 12, .inl (nF (M.2 25)))), ((e 26), .inl (0, 12, .inl (nF (M.2 26)))), ((e 27), .inl (0, 12, .inl (nF (M.2 27)))), ((e 28), .inl (0, 360, .inl (nF (M.2 28)))), ((e 29), .inl (0, 12, .inl (nF (M.2 29)))), ((e 30), .inl (0, 12, .inl (nF (M.2 30)))), ((e 31), .inl (0, 30, .inl (nF (M.2 31)))), ((e 32), .inl (0, 12, .inl (nF (M.2 32)))), ((e 1), .inl (0, 740, .inl (nF bt)))]
  refine zs_aload_n dX13_period_5 rfl rfl ?_
  refine zs_iconst (v := nI 2) dX13_period_6 (by decide) ?_
  refine zs_bipush (v := nI 12) dX13_period_7 (by decide) ?_
  refine zs_iconst (v := nI 1) dX13_period_9 (by decide) ?_
  refine zs_callV (M := mX13_takesTeam) (As := [.int (nI 2), .int (nI 12), .int (nI 1)]) (st := []) (Kc := [(mo, .inr (11, fMo e (mg (upd g 0 (nI 0)) M.1) w)), ((e 14), .inl (0, 800, .inl nw)), ((e 24), .inl (0, 12, .inl (nF (M.2 24)))), ((e 25), .inl (0, 12, .inl (nF (M.2 25)))), ((e 26), .inl (0, 12, .inl (nF (M.2 26)))), ((e 27), .inl (0, 12, .inl (nF (M.2 27)))), ((e 28), .inl (0, 360, .inl (nF (M.2 28)))), ((e 29), .inl (0, 12, .inl (nF (M.2 29)))), ((e 30), .inl (0, 12, .inl (nF (M.2 30)))), ((e 31), .inl (0, 30, .inl (nF (M.2 31)))), ((e 32), .inl (0, 12, .inl (nF (M.2 32)))), ((e 1), .inl (0, 740, .inl (nF bt)))]) (Kr := []) [0, 1, 2, 3, 4, 5, 6, 7, 8, 9, 10, 11] [] 0 dX13_period_10 zl_RX13_372 kX13_takesTeam rfl rfl rfl rfl rfl (by decide) rfl rfl (show dd - 1 + 1 ≤ dd by omega) (Nat.zero_le _) (Nat.zero_le _) (Nat.le_of_ble_eq_true rfl) (s_tTeam l (dd - 1) mo e (upd g 0 (nI 0)) w nw D M bt n 2 12 (by omega) hR hD hb h2 hn hbt (by decide) (by decide)) (fun r K1 hr => ?_)
  rcases hr with ⟨htd, rfl, g1, M1, hfr1, h2_1, h22_1, h33, hteam, rfl⟩ | ⟨htd, rfl, g1, M1, hfr1, h2_1, h22_1, rfl⟩
  · refine zs_K (K' := [(mo, .inr (11, fMo e (mg g1 M1.1) w)), ((e 14), .inl (0, 800, .inl (mLay g nw))), ((e 24), .inl (0, 12, .inl (nF (M1.2 24)))), ((e 25), .inl (0, 12, .inl (nF (M1.2 25)))), ((e 26), .inl (0, 12, .inl (nF (M1.2 26)))), ((e 27), .inl (0, 12, .inl (nF (M1.2 27)))), ((e 28), .inl (0, 360, .inl (nF (M1.2 28)))), ((e 29), .inl (0, 12, .inl (nF (M1.2 29)))), ((e 30), .inl (0, 12, .inl (nF (M1.2 30)))), ((e 31), .inl (0, 30, .inl (nF (M1.2 31)))), ((e 32), .inl (0, 12, .inl (nF (M1.2 32)))), ((e 1), .inl (0, 740, .inl (nF bt)))]) [0, 1, 2, 3, 4, 5, 6, 7, 8, 9, 10, 11] rfl (by decide) ?_
    have hmn : pMn bt n (D.1 0) 2 12 = n := if_pos htd
    have htp : pTdP bt n (D.1 0) 2 12 := of_decide_eq_true htd
    have hn12 : n ≤ 12 := Nat.le_trans htp.2.1 (by decide)
    have hnlo : 2 ≤ n := htp.1
    refine zs_if_eq (tgt := 27) dX13_period_13 (by decide) (fun c_1 => (by first | exact absurd c_1 (by decide) | exact absurd (by decide) c_1 : False).elim) (fun c_1 => ?_)
    refine zs_aload_n dX13_period_16 rfl rfl ?_
    refine zs_aload_n dX13_period_17 rfl rfl ?_
    refine zs_get 0 dX13_period_18 zf_RX13_304 rfl (v := .int (nI (M1.1 33))) rfl ?_
    refine zs_as (y := nI n) (congrArg nI h33) ?_
    refine zs_callV (M := mX13_periodOf) (As := [.int (nI n)]) (st := []) (Kc := [(mo, .inr (11, fMo e (mg g1 M1.1) w)), ((e 14), .inl (0, 800, .inl (mLay g nw))), ((e 24), .inl (0, 12, .inl (nF (M1.2 24)))), ((e 25), .inl (0, 12, .inl (nF (M1.2 25)))), ((e 26), .inl (0, 12, .inl (nF (M1.2 26)))), ((e 27), .inl (0, 12, .inl (nF (M1.2 27)))), ((e 28), .inl (0, 360, .inl (nF (M1.2 28)))), ((e 29), .inl (0, 12, .inl (nF (M1.2 29)))), ((e 30), .inl (0, 12, .inl (nF (M1.2 30)))), ((e 31), .inl (0, 30, .inl (nF (M1.2 31)))), ((e 32), .inl (0, 12, .inl (nF (M1.2 32))))]) (Kr := [((e 1), .inl (0, 740, .inl (nF bt)))]) [0, 1, 2, 3, 4, 5, 6, 7, 8, 9, 10] [11] 0 dX13_period_21 zl_RX13_383 kX13_periodOf rfl rfl rfl rfl rfl (by decide) rfl rfl (show dd - 1 + 1 ≤ dd by omega) (Nat.zero_le _) (Nat.zero_le _) (Nat.le_of_ble_eq_true rfl) (s_mPeriodOf l (dd - 1) mo e g1 w (mLay g nw) D M1 f n (by omega) hR hD (by omega) (fun p hp => (hteam p hp).trans (hf p hp).symm) (fun p hp => by rw [hf p hp]; exact htp.2.2.1 p hp)) (fun r K1 hr => ?_)
    obtain ⟨rfl, rfl⟩ := hr
    refine zs_K (K' := [(mo, .inr (11, fMo e (mg g1 M1.1) w)), ((e 14), .inl (0, 800, .inl (mLay g nw))), ((e 24), .inl (0, 12, .inl (nF (M1.2 24)))), ((e 25), .inl (0, 12, .inl (nF (M1.2 25)))), ((e 26), .inl (0, 12, .inl (nF (M1.2 26)))), ((e 27), .inl (0, 12, .inl (nF (M1.2 27)))), ((e 28), .inl (0, 360, .inl (nF (M1.2 28)))), ((e 29), .inl (0, 12, .inl (nF (M1.2 29)))), ((e 30), .inl (0, 12, .inl (nF (M1.2 30)))), ((e 31), .inl (0, 30, .inl (nF (M1.2 31)))), ((e 32), .inl (0, 12, .inl (nF (M1.2 32)))), ((e 1), .inl (0, 740, .inl (nF bt)))]) [1, 2, 3, 4, 5, 6, 7, 8, 9, 10, 11, 0] rfl (by decide) ?_
    refine zs_goto (tgt := 28) dX13_period_24 (by decide) ?_
    exact zs_iret dX13_period_28 rfl (Or.inr ⟨by rw [hmn]; omega, rfl, g1, M1, (mFr_t (mFr_u mFr_r (by decide) : mFr [0] g (upd g 0 (nI 0))) hfr1 (U := [0, 2, 22, 33, 34, 35, 36, 37, 38, 39, 40, 41, 42]) (by decide) (by decide)), hfr1 0 (by decide), h2_1, h22_1, rfl⟩)
  · refine zs_K (K' := [(mo, .inr (11, fMo e (mg g1 M1.1) w)), ((e 14), .inl (0, 800, .inl (mLay g nw))), ((e 24), .inl (0, 12, .inl (nF (M1.2 24)))), ((e 25), .inl (0, 12, .inl (nF (M1.2 25)))), ((e 26), .inl (0, 12, .inl (nF (M1.2 26)))), ((e 27), .inl (0, 12, .inl (nF (M1.2 27)))), ((e 28), .inl (0, 360, .inl (nF (M1.2 28)))), ((e 29), .inl (0, 12, .inl (nF (M1.2 29)))), ((e 30), .inl (0, 12, .inl (nF (M1.2 30)))), ((e 31), .inl (0, 30, .inl (nF (M1.2 31)))), ((e 32), .inl (0, 12, .inl (nF (M1.2 32)))), ((e 1), .inl (0, 740, .inl (nF bt)))]) [0, 1, 2, 3, 4, 5, 6, 7, 8, 9, 10, 11] rfl (by decide) ?_
    refine zs_if_eq (tgt := 27) dX13_period_13 (by decide) (fun c_2 => ?_) (fun c_2 => (by first | exact absurd c_2 (by decide) | exact absurd (by decide) c_2 : False).elim)
    refine zs_iconst (v := (-1)) dX13_period_27 (by decide) ?_
    exact zs_iret dX13_period_28 rfl (Or.inl ⟨(pMn_0 (by decide)).mpr htd, rfl, g1, M1, (mFr_t (mFr_u mFr_r (by decide) : mFr [0] g (upd g 0 (nI 0))) hfr1 (U := [0, 2, 22, 33, 34, 35, 36, 37, 38, 39, 40, 41, 42]) (by decide) (by decide)), hfr1 0 (by decide), h2_1, h22_1, rfl⟩)
set_option maxRecDepth 100000 in
theorem s_mRunning (l : Launch) (dd : Nat) (mo : Nat) (e : Nat → Nat) (g : Nat → Int32) (w : Int64) (nw : Nat → Int32) (D : zYd) (M : zRs) (bt : Nat → Nat) (n : Nat) (f : Nat → Nat) (ru : zRs) (x : Int32) (hd : 8 ≤ dd) (hR : yR D (mLay g nw)) (hD : yI D) (hb : g 22 = 0 ∨ g 22 = 1) (h2 : g 2 = nI n) (hn : n ≤ 740) (hbt : ∀ j, bt j < 256) (hI : rI ru) (hf : ∀ p, p < n → f p = bt p) : zSp l mX13_running dd 0 0 [.ref mo, .int x] [(mo, .inr (11, fMo e (mg g M.1) w)), ((e 14), .inl (0, 800, .inl nw)), ((e 24), .inl (0, 12, .inl (nF (M.2 24)))), ((e 25), .inl (0, 12, .inl (nF (M.2 25)))), ((e 26), .inl (0, 12, .inl (nF (M.2 26)))), ((e 27), .inl (0, 12, .inl (nF (M.2 27)))), ((e 28), .inl (0, 360, .inl (nF (M.2 28)))), ((e 29), .inl (0, 12, .inl (nF (M.2 29)))), ((e 30), .inl (0, 12, .inl (nF (M.2 30)))), ((e 31), .inl (0, 30, .inl (nF (M.2 31)))), ((e 32), .inl (0, 12, .inl (nF (M.2 32)))), ((e 1), .inl (0, 740, .inl (nF bt)))] (fun r K' => ((pMn bt n (D.1 0) 1 12 = 0 ∨ ¬ tkT x = true) ∧ r = some (.int (-1)) ∧ ∃ (g' : Nat → Int32) (M' : zRs), mFr [0, 2, 22, 33, 34, 35, 36, 37, 38, 39, 40, 41, 42] g g' ∧ g' 0 = nI 0 ∧ g' 2 = nI 0 ∧ g' 22 = 1 ∧ K' = [(mo, .inr (11, fMo e (mg g' M'.1) w)), ((e 14), .inl (0, 800, .inl (mLay g nw))), ((e 24), .inl (0, 12, .inl (nF (M'.2 24)))), ((e 25), .inl (0, 12, .inl (nF (M'.2 25)))), ((e 26), .inl (0, 12, .inl (nF (M'.2 26)))), ((e 27), .inl (0, 12, .inl (nF (M'.2 27)))), ((e 28), .inl (0, 360, .inl (nF (M'.2 28)))), ((e 29), .inl (0, 12, .inl (nF (M'.2 29)))), ((e 30), .inl (0, 12, .inl (nF (M'.2 30)))), ((e 31), .inl (0, 30, .inl (nF (M'.2 31)))), ((e 32), .inl (0, 12, .inl (nF (M'.2 32)))), ((e 1), .inl (0, 740, .inl (nF bt)))]) ∨ (∃ k, k ≤ 3600 ∧ x = nI k ∧ ¬ pMn bt n (D.1 0) 1 12 = 0 ∧ r = some (.int (nI ((rnB D f n k ru).1 8))) ∧ ∃ (g' : Nat → Int32) (M' : zRs), mFr [0, 2, 22, 33, 34, 35, 36, 37, 38, 39, 40, 41, 42] g g' ∧ g' 0 = nI 0 ∧ g' 2 = nI 0 ∧ g' 22 = 1 ∧ K' = [(mo, .inr (11, fMo e (mg g' M'.1) w)), ((e 14), .inl (0, 800, .inl (mLay g nw))), ((e 24), .inl (0, 12, .inl (nF (M'.2 24)))), ((e 25), .inl (0, 12, .inl (nF (M'.2 25)))), ((e 26), .inl (0, 12, .inl (nF (M'.2 26)))), ((e 27), .inl (0, 12, .inl (nF (M'.2 27)))), ((e 28), .inl (0, 360, .inl (nF (M'.2 28)))), ((e 29), .inl (0, 12, .inl (nF (M'.2 29)))), ((e 30), .inl (0, 12, .inl (nF (M'.2 30)))), ((e 31), .inl (0, 30, .inl (nF (M'.2 31)))), ((e 32), .inl (0, 12, .inl (nF (M'.2 32)))), ((e 1), .inl (0, 740, .inl (nF bt)))])) := by
  refine zSp.of (by decide) (Nat.le_of_ble_eq_true rfl) (fun h0 => ?_)
  show zS _ 0 0 0 [(0, .ref mo), (1, .int x)] [] [(mo, .inr (11, fMo e (mg g M.1) w)), ((e 14), .inl (0, 800, .inl nw)), ((e 24), .inl (0, 12, .inl (nF (M.2 24)))), ((e 25), .inl (0, 12, .inl (nF (M.2 25)))), ((e 26), .inl (0, 12, .inl (nF (M.2 26)))), ((e 27), .inl (0, 12, .inl (nF (M.2 27)))), ((e 28), .inl (0, 360, .inl (nF (M.2 28)))), ((e 29), .inl (0, 12, .inl (nF (M.2 29)))), ((e 30), .inl (0, 12, .inl (nF (M.2 30)))), ((e 31), .inl (0, 30, .inl (nF (M.2 31)))), ((e 32), .inl (0, 12, .inl (nF (M.2 32)))), ((e 1), .inl (0, 740, .inl (nF bt)))]
  refine zs_aload_n dX13_running_0 rfl rfl ?_
  refine zs_iconst (v := nI 0) dX13_running_1 (by decide) ?_
  refine zs_put 0 dX13_running_2 zf_RX13_148 rfl (Nat.le_of_ble_eq_true rfl) (zPv_i _) ?_
  show zS _ _ _ _ _ _ [(mo, .inr (11, fMo e (mg (upd g 0 (nI 0)) M.1) w)), ((e 14), .inl (0, 800, .inl nw)), ((e 24), .inl (0, 12, .inl (nF (M.2 24)))), ((e 25), .inl (0, 12, .inl (nF (M.2 25)))), ((e 26), .inl (0, 12, .inl (nF (M.2 26)))), ((e 27), .inl (0, 12, .inl (nF (M.2 27)))), ((e 28), .inl (0, 360, .inl (nF (M.2 28)))), ((e 29), .inl (0, 12, .inl (nF (M.2 29)))), ((e 30), .inl (0, 12, .inl (nF (M.2 30)))), ((e 31), .inl (0, 30, .inl (nF (M.2 31)))), ((e 32), .inl (0, 12, .inl (nF (M.2 32)))), ((e 1), .inl (0, 740, .inl (nF bt)))]
  refine zs_aload_n dX13_running_5 rfl rfl ?_
  refine zs_iconst (v := nI 1) dX13_running_6 (by decide) ?_
  refine zs_bipush (v := nI 12) dX13_running_7 (by decide) ?_
  refine zs_iconst (v := nI 1) dX13_running_9 (by decide) ?_
  refine zs_callV (M := mX13_takesTeam) (As := [.int (nI 1), .int (nI 12), .int (nI 1)]) (st := []) (Kc := [(mo, .inr (11, fMo e (mg (upd g 0 (nI 0)) M.1) w)), ((e 14), .inl (0, 800, .inl nw)), ((e 24), .inl (0, 12, .inl (nF (M.2 24)))), ((e 25), .inl (0, 12, .inl (nF (M.2 25)))), ((e 26), .inl (0, 12, .inl (nF (M.2 26)))), ((e 27), .inl (0, 12, .inl (nF (M.2 27)))), ((e 28), .inl (0, 360, .inl (nF (M.2 28)))), ((e 29), .inl (0, 12, .inl (nF (M.2 29)))), ((e 30), .inl (0, 12, .inl (nF (M.2 30)))), ((e 31), .inl (0, 30, .inl (nF (M.2 31)))), ((e 32), .inl (0, 12, .inl (nF (M.2 32)))), ((e 1), .inl (0, 740, .inl (nF bt)))]) (Kr := []) [0, 1, 2, 3, 4, 5, 6, 7, 8, 9, 10, 11] [] 0 dX13_running_10 zl_RX13_372 kX13_takesTeam rfl rfl rfl rfl rfl (by decide) rfl rfl (show dd - 1 + 1 ≤ dd by omega) (Nat.zero_le _) (Nat.zero_le _) (Nat.le_of_ble_eq_true rfl) (s_tTeam l (dd - 1) mo e (upd g 0 (nI 0)) w nw D M bt n 1 12 (by omega) hR hD hb h2 hn hbt (by decide) (by decide)) (fun r K1 hr => ?_)
  rcases hr with ⟨htd, rfl, g1, M1, hfr1, h2_1, h22_1, h33, hteam, rfl⟩ | ⟨htd, rfl, g1, M1, hfr1, h2_1, h22_1, rfl⟩
  · refine zs_K (K' := [(mo, .inr (11, fMo e (mg g1 M1.1) w)), ((e 14), .inl (0, 800, .inl (mLay g nw))), ((e 24), .inl (0, 12, .inl (nF (M1.2 24)))), ((e 25), .inl (0, 12, .inl (nF (M1.2 25)))), ((e 26), .inl (0, 12, .inl (nF (M1.2 26)))), ((e 27), .inl (0, 12, .inl (nF (M1.2 27)))), ((e 28), .inl (0, 360, .inl (nF (M1.2 28)))), ((e 29), .inl (0, 12, .inl (nF (M1.2 29)))), ((e 30), .inl (0, 12, .inl (nF (M1.2 30)))), ((e 31), .inl (0, 30, .inl (nF (M1.2 31)))), ((e 32), .inl (0, 12, .inl (nF (M1.2 32)))), ((e 1), .inl (0, 740, .inl (nF bt)))]) [0, 1, 2, 3, 4, 5, 6, 7, 8, 9, 10, 11] rfl (by decide) ?_
    have hmn : pMn bt n (D.1 0) 1 12 = n := if_pos htd
    have htp : pTdP bt n (D.1 0) 1 12 := of_decide_eq_true htd
    have hn12 : n ≤ 12 := Nat.le_trans htp.2.1 (by decide)
    have hnlo : 1 ≤ n := htp.1
    refine zs_if_eq (tgt := 27) dX13_running_13 (by decide) (fun c_1 => (by first | exact absurd c_1 (by decide) | exact absurd (by decide) c_1 : False).elim) (fun c_1 => ?_)
    refine zs_iload_n dX13_running_16 rfl ?_
    refine zs_iconst (v := nI 0) dX13_running_17 (by decide) ?_
    refine zs_sipush (v := nI 3600) dX13_running_18 (by decide) ?_
    refine zs_callS (M := mX13_isIn) (As := [.int x, .int (nI 0), .int (nI 3600)]) (st := []) (Kc := []) (Kr := [(mo, .inr (11, fMo e (mg g1 M1.1) w)), ((e 14), .inl (0, 800, .inl (mLay g nw))), ((e 24), .inl (0, 12, .inl (nF (M1.2 24)))), ((e 25), .inl (0, 12, .inl (nF (M1.2 25)))), ((e 26), .inl (0, 12, .inl (nF (M1.2 26)))), ((e 27), .inl (0, 12, .inl (nF (M1.2 27)))), ((e 28), .inl (0, 360, .inl (nF (M1.2 28)))), ((e 29), .inl (0, 12, .inl (nF (M1.2 29)))), ((e 30), .inl (0, 12, .inl (nF (M1.2 30)))), ((e 31), .inl (0, 30, .inl (nF (M1.2 31)))), ((e 32), .inl (0, 12, .inl (nF (M1.2 32)))), ((e 1), .inl (0, 740, .inl (nF bt)))]) [] [0, 1, 2, 3, 4, 5, 6, 7, 8, 9, 10, 11] dX13_running_21 zl_RX13_219 kX13_isIn rfl rfl rfl rfl rfl (by decide) (show dd - 1 + 1 ≤ dd by omega) (Nat.zero_le _) (Nat.zero_le _) (Nat.le_of_ble_eq_true rfl) (s_mIsIn l (dd - 1) x (nI 0) (nI 3600)) (fun r K1 hr => ?_)
    obtain ⟨rfl, rfl⟩ := hr
    refine zs_K (K' := [(mo, .inr (11, fMo e (mg g1 M1.1) w)), ((e 14), .inl (0, 800, .inl (mLay g nw))), ((e 24), .inl (0, 12, .inl (nF (M1.2 24)))), ((e 25), .inl (0, 12, .inl (nF (M1.2 25)))), ((e 26), .inl (0, 12, .inl (nF (M1.2 26)))), ((e 27), .inl (0, 12, .inl (nF (M1.2 27)))), ((e 28), .inl (0, 360, .inl (nF (M1.2 28)))), ((e 29), .inl (0, 12, .inl (nF (M1.2 29)))), ((e 30), .inl (0, 12, .inl (nF (M1.2 30)))), ((e 31), .inl (0, 30, .inl (nF (M1.2 31)))), ((e 32), .inl (0, 12, .inl (nF (M1.2 32)))), ((e 1), .inl (0, 740, .inl (nF bt)))]) [0, 1, 2, 3, 4, 5, 6, 7, 8, 9, 10, 11] rfl (by decide) ?_
    refine zs_if_ne (tgt := 29) dX13_running_24 (by decide) (fun c_2 => ?_) (fun c_2 => ?_)
    · have htk : tkT x = true := bI_t c_2
      obtain ⟨k, hk, rfl⟩ := tkT_k htk
      have hfT : ∀ p, p < n → M1.2 24 p = f (0 + p) ∧ f (0 + p) < D.1 0 := fun p hp => by
        rw [Nat.zero_add, hf p hp]
        exact ⟨hteam p hp, htp.2.2.1 p hp⟩
      have hfD : ∀ i, i < n → f i < D.1 0 := fun i hi => by rw [hf i hi]; exact htp.2.2.1 i hi
      refine zs_aload_n dX13_running_29 rfl rfl ?_
      refine zs_iconst (v := nI 2) dX13_running_30 (by decide) ?_
      refine zs_aload_n dX13_running_31 rfl rfl ?_
      refine zs_get 0 dX13_running_32 zf_RX13_304 rfl (v := .int (nI (M1.1 33))) rfl ?_
      refine zs_as (y := nI n) (congrArg nI h33) ?_
      refine zs_aload_n dX13_running_35 rfl rfl ?_
      refine zs_get 0 dX13_running_36 zf_RX13_13 rfl (v := .ref (e 14)) rfl ?_
      refine zs_iconst (v := nI 5) dX13_running_39 (by decide) ?_
      refine zs_iald 1 dX13_running_40 rfl (vp_in_nI (by omega) (by omega)) ?_
      refine zs_as (y := nI (D.1 9)) (by rw [nI_c (n := 5) (by omega)]; exact hR.2.2.2.2.2.1) ?_
      refine zs_iload_n dX13_running_41 rfl ?_
      refine zs_callV (M := mX13_throwsIn) (As := [.int (nI 2), .int (nI n), .int (nI (D.1 9)), .int (nI k)]) (st := []) (Kc := [(mo, .inr (11, fMo e (mg g1 M1.1) w)), ((e 14), .inl (0, 800, .inl (mLay g nw))), ((e 24), .inl (0, 12, .inl (nF (M1.2 24)))), ((e 25), .inl (0, 12, .inl (nF (M1.2 25)))), ((e 26), .inl (0, 12, .inl (nF (M1.2 26)))), ((e 27), .inl (0, 12, .inl (nF (M1.2 27)))), ((e 28), .inl (0, 360, .inl (nF (M1.2 28)))), ((e 29), .inl (0, 12, .inl (nF (M1.2 29)))), ((e 30), .inl (0, 12, .inl (nF (M1.2 30)))), ((e 31), .inl (0, 30, .inl (nF (M1.2 31)))), ((e 32), .inl (0, 12, .inl (nF (M1.2 32))))]) (Kr := [((e 1), .inl (0, 740, .inl (nF bt)))]) [0, 1, 2, 3, 4, 5, 6, 7, 8, 9, 10] [11] 0 dX13_running_42 zl_RX13_376 kX13_throwsIn rfl rfl rfl rfl rfl (by decide) rfl rfl (show dd - 1 + 1 ≤ dd by omega) (Nat.zero_le _) (Nat.zero_le _) (Nat.le_of_ble_eq_true rfl) (s_tThrow2 l (dd - 1) mo e g1 w (mLay g nw) (yT D (fun _ => 12)) M1 n (D.1 9) k (rBeg D.1 D.2.2.2.2.1 f 0 n (D.1 9) ru) (by omega) hR (yT_I hD (fun _ => Nat.le_refl _)) (by omega) hk (uR_beg (D := yT D (fun _ => 12)) (M := tmWl M1 (D.1 9)) (yT_I hD (fun _ => Nat.le_refl _)) (by omega) hfT rfl hD.2.2.2.2.2.2.2.2.2.2.2.2.2.1 hI yT_0)) (fun r K1 hr => ?_)
      obtain ⟨rfl, M2, hM2, rfl⟩ := hr
      refine zs_K (K' := [(mo, .inr (11, fMo e (mg (upd g1 34 (nI 2)) M2.1) w)), ((e 14), .inl (0, 800, .inl (mLay g nw))), ((e 24), .inl (0, 12, .inl (nF (M2.2 24)))), ((e 25), .inl (0, 12, .inl (nF (M2.2 25)))), ((e 26), .inl (0, 12, .inl (nF (M2.2 26)))), ((e 27), .inl (0, 12, .inl (nF (M2.2 27)))), ((e 28), .inl (0, 360, .inl (nF (M2.2 28)))), ((e 29), .inl (0, 12, .inl (nF (M2.2 29)))), ((e 30), .inl (0, 12, .inl (nF (M2.2 30)))), ((e 31), .inl (0, 30, .inl (nF (M2.2 31)))), ((e 32), .inl (0, 12, .inl (nF (M2.2 32)))), ((e 1), .inl (0, 740, .inl (nF bt)))]) [1, 2, 3, 4, 5, 6, 7, 8, 9, 10, 11, 0] rfl (by decide) ?_
      exact zs_iret dX13_running_45 rfl (Or.inr ⟨k, hk, rfl, by rw [hmn]; omega, rfl, upd g1 34 (nI 2), M2, mFr_u (mFr_t (mFr_u mFr_r (by decide) : mFr [0] g (upd g 0 (nI 0))) hfr1 (U := [0, 2, 22, 33, 34, 35, 36, 37, 38, 39, 40, 41, 42]) (by decide) (by decide)) (by decide), hfr1 0 (by decide), h2_1, h22_1, rfl⟩)
    · have htk : ¬ tkT x = true := fun h => by have h1 : tkT x = false := bI_f c_2; rw [h1] at h; exact absurd h (by decide)
      refine zs_iconst (v := (-1)) dX13_running_27 (by decide) ?_
      exact zs_iret dX13_running_28 rfl (Or.inl ⟨Or.inr htk, rfl, g1, M1, (mFr_t (mFr_u mFr_r (by decide) : mFr [0] g (upd g 0 (nI 0))) hfr1 (U := [0, 2, 22, 33, 34, 35, 36, 37, 38, 39, 40, 41, 42]) (by decide) (by decide)), hfr1 0 (by decide), h2_1, h22_1, rfl⟩)
  · refine zs_K (K' := [(mo, .inr (11, fMo e (mg g1 M1.1) w)), ((e 14), .inl (0, 800, .inl (mLay g nw))), ((e 24), .inl (0, 12, .inl (nF (M1.2 24)))), ((e 25), .inl (0, 12, .inl (nF (M1.2 25)))), ((e 26), .inl (0, 12, .inl (nF (M1.2 26)))), ((e 27), .inl (0, 12, .inl (nF (M1.2 27)))), ((e 28), .inl (0, 360, .inl (nF (M1.2 28)))), ((e 29), .inl (0, 12, .inl (nF (M1.2 29)))), ((e 30), .inl (0, 12, .inl (nF (M1.2 30)))), ((e 31), .inl (0, 30, .inl (nF (M1.2 31)))), ((e 32), .inl (0, 12, .inl (nF (M1.2 32)))), ((e 1), .inl (0, 740, .inl (nF bt)))]) [0, 1, 2, 3, 4, 5, 6, 7, 8, 9, 10, 11] rfl (by decide) ?_
    refine zs_if_eq (tgt := 27) dX13_running_13 (by decide) (fun c_3 => ?_) (fun c_3 => (by first | exact absurd c_3 (by decide) | exact absurd (by decide) c_3 : False).elim)
    refine zs_iconst (v := (-1)) dX13_running_27 (by decide) ?_
    exact zs_iret dX13_running_28 rfl (Or.inl ⟨Or.inl ((pMn_0 (by decide)).mpr htd), rfl, g1, M1, (mFr_t (mFr_u mFr_r (by decide) : mFr [0] g (upd g 0 (nI 0))) hfr1 (U := [0, 2, 22, 33, 34, 35, 36, 37, 38, 39, 40, 41, 42]) (by decide) (by decide)), hfr1 0 (by decide), h2_1, h22_1, rfl⟩)
