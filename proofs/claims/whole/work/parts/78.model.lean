/-! ===== the reference: a text begun; what the yard tells ===== -/
theorem mFr_t {S T U : List Nat} {g g1 g2 : Nat → Int32} (h1 : mFr S g g1) (h2 : mFr T g1 g2) (hS : ∀ x ∈ S, x ∈ U) (hT : ∀ x ∈ T, x ∈ U) : mFr U g g2 := fun j hj => (h2 j (fun h => hj (hT j h))).trans (h1 j (fun h => hj (hS j h)))
theorem mFr_w {S U : List Nat} {g g1 : Nat → Int32} (h1 : mFr S g g1) (hS : ∀ x ∈ S, x ∈ U) : mFr U g g1 := fun j hj => h1 j (fun h => hj (hS j h))
theorem dX13_begin_0 : decode cX13_begin 0 = .ok (.aload_n 0, 1) := by decide +kernel
theorem dX13_begin_1 : decode cX13_begin 1 = .ok (.iconst 0, 1) := by decide +kernel
theorem dX13_begin_2 : decode cX13_begin 2 = .ok (.putfield 148, 3) := by decide +kernel
theorem dX13_begin_5 : decode cX13_begin 5 = .ok (.aload_n 0, 1) := by decide +kernel
theorem dX13_begin_6 : decode cX13_begin 6 = .ok (.invokevirtual 232, 3) := by decide +kernel
theorem dX13_begin_9 : decode cX13_begin 9 = .ok (.aload_n 0, 1) := by decide +kernel
theorem dX13_begin_10 : decode cX13_begin 10 = .ok (.aload_n 0, 1) := by decide +kernel
theorem dX13_begin_11 : decode cX13_begin 11 = .ok (.invokevirtual 235, 3) := by decide +kernel
theorem dX13_begin_14 : decode cX13_begin 14 = .ok (.putfield 158, 3) := by decide +kernel
theorem dX13_begin_17 : decode cX13_begin 17 = .ok (.aload_n 0, 1) := by decide +kernel
theorem dX13_begin_18 : decode cX13_begin 18 = .ok (.iload_n 1, 1) := by decide +kernel
theorem dX13_begin_19 : decode cX13_begin 19 = .ok (.putfield 167, 3) := by decide +kernel
theorem dX13_begin_22 : decode cX13_begin 22 = .ok (.aload_n 0, 1) := by decide +kernel
theorem dX13_begin_23 : decode cX13_begin 23 = .ok (.iconst 0, 1) := by decide +kernel
theorem dX13_begin_24 : decode cX13_begin 24 = .ok (.putfield 210, 3) := by decide +kernel
theorem dX13_begin_27 : decode cX13_begin 27 = .ok (.aload_n 0, 1) := by decide +kernel
theorem dX13_begin_28 : decode cX13_begin 28 = .ok (.iconst 0, 1) := by decide +kernel
theorem dX13_begin_29 : decode cX13_begin 29 = .ok (.putfield 161, 3) := by decide +kernel
theorem dX13_begin_32 : decode cX13_begin 32 = .ok (.aload_n 0, 1) := by decide +kernel
theorem dX13_begin_33 : decode cX13_begin 33 = .ok (.invokevirtual 226, 3) := by decide +kernel
theorem dX13_begin_36 : decode cX13_begin 36 = .ok (.return_, 1) := by decide +kernel
set_option maxRecDepth 100000 in
theorem s_mBegin (l : Launch) (dd : Nat) (mo : Nat) (e : Nat → Nat) (g : Nat → Int32) (w : Int64) (n L : Nat) (bt : Nat → Nat) (nw : Nat → Int32) (hd : 2 ≤ dd) (hn : n ≤ 740) (hL : L ≤ 740) (hbt : ∀ j, bt j < 256) (hb : g 22 = 0 ∨ g 22 = 1) (h2 : g 2 = nI n) : zSp l mX13_begin dd 0 0 [.ref mo, .int (nI L)] [(mo, .inr (11, fMo e g w)), ((e 1), .inl (0, 740, .inl (nF bt))), ((e 14), .inl (0, 800, .inl nw))] (fun r K' => r = none ∧ ∃ g' w', mFr [0, 2, 3, 4, 5, 6, 7, 8, 9, 10, 22] g g' ∧ (g' 0 = nI 0 ∧ g' 2 = nI 0 ∧ g' 3 = nI n ∧ g' 4 = nI L ∧ g' 10 = nI 0 ∧ g' 22 = 1) ∧ (∀ v, mTk n L (nxt bt n L (0, 0, 0, v, none)) g' w') ∧ K' = [(mo, .inr (11, fMo e g' w'))] ++ ([((e 1), .inl (0, 740, .inl (nF bt)))] ++ [((e 14), .inl (0, 800, .inl (mLay g nw)))])) := by
  refine zSp.of (by decide) (Nat.le_of_ble_eq_true rfl) (fun h0 => ?_)
  show zS _ 0 0 0 [(0, .ref mo), (1, .int (nI L))] [] [(mo, .inr (11, fMo e g w)), ((e 1), .inl (0, 740, .inl (nF bt))), ((e 14), .inl (0, 800, .inl nw))]
  refine zs_aload_n dX13_begin_0 rfl rfl ?_
  refine zs_iconst (v := nI 0) dX13_begin_1 (by decide) ?_
  refine zs_put 0 dX13_begin_2 zf_RX13_148 rfl (Nat.le_of_ble_eq_true rfl) (zPv_i _) ?_
  show zS _ _ _ _ _ _ [(mo, .inr (11, fMo e (upd g 0 (nI 0)) w)), ((e 1), .inl (0, 740, .inl (nF bt))), ((e 14), .inl (0, 800, .inl nw))]
  refine zs_aload_n dX13_begin_5 rfl rfl ?_
  refine zs_callV (M := mX13_lay) (As := []) (st := []) (Kc := [(mo, .inr (11, fMo e (upd g 0 (nI 0)) w)), ((e 14), .inl (0, 800, .inl nw))]) (Kr := [((e 1), .inl (0, 740, .inl (nF bt)))]) [0, 2] [1] 0 dX13_begin_6 zl_RX13_232 kX13_lay rfl rfl rfl rfl rfl (by decide) rfl rfl (show dd - 1 + 1 ≤ dd by omega) (Nat.zero_le _) (Nat.zero_le _) (Nat.le_of_ble_eq_true rfl) (s_mLay l (dd - 1) mo e (upd g 0 (nI 0)) w nw (by omega) hb) (fun r K1 hr => ?_)
  obtain ⟨rfl, g2, hfr2, h22, rfl⟩ := hr
  refine zs_K (K' := [(mo, .inr (11, fMo e g2 w)), ((e 1), .inl (0, 740, .inl (nF bt))), ((e 14), .inl (0, 800, .inl (mLay g nw)))]) [1, 0, 2] rfl (by decide) ?_
  refine zs_aload_n dX13_begin_9 rfl rfl ?_
  refine zs_aload_n dX13_begin_10 rfl rfl ?_
  refine zs_callV (M := mX13_take) (As := []) (st := [.ref mo]) (Kc := [(mo, .inr (11, fMo e g2 w))]) (Kr := [((e 1), .inl (0, 740, .inl (nF bt))), ((e 14), .inl (0, 800, .inl (mLay g nw)))]) [0] [1, 2] 0 dX13_begin_11 zl_RX13_235 kX13_take rfl rfl rfl rfl rfl (by decide) rfl rfl (show dd - 1 + 1 ≤ dd by omega) (Nat.zero_le _) (Nat.zero_le _) (Nat.le_of_ble_eq_true rfl) (s_mTake l (dd - 1) mo e g2 w) (fun r K1 hr => ?_)
  obtain ⟨rfl, rfl⟩ := hr
  refine zs_K (K' := [(mo, .inr (11, fMo e (upd g2 2 (nI 0)) w)), ((e 1), .inl (0, 740, .inl (nF bt))), ((e 14), .inl (0, 800, .inl (mLay g nw)))]) [2, 0, 1] rfl (by decide) ?_
  refine zs_as (y := nI n) ((hfr2 2 (by decide)).trans h2) ?_
  refine zs_put 0 dX13_begin_14 zf_RX13_158 rfl (Nat.le_of_ble_eq_true rfl) (zPv_i _) ?_
  show zS _ _ _ _ _ _ [(mo, .inr (11, fMo e (upd (upd g2 2 (nI 0)) 3 (nI n)) w)), ((e 1), .inl (0, 740, .inl (nF bt))), ((e 14), .inl (0, 800, .inl (mLay g nw)))]
  refine zs_aload_n dX13_begin_17 rfl rfl ?_
  refine zs_iload_n dX13_begin_18 rfl ?_
  refine zs_put 0 dX13_begin_19 zf_RX13_167 rfl (Nat.le_of_ble_eq_true rfl) (zPv_i _) ?_
  show zS _ _ _ _ _ _ [(mo, .inr (11, fMo e (upd (upd (upd g2 2 (nI 0)) 3 (nI n)) 4 (nI L)) w)), ((e 1), .inl (0, 740, .inl (nF bt))), ((e 14), .inl (0, 800, .inl (mLay g nw)))]
  refine zs_aload_n dX13_begin_22 rfl rfl ?_
  refine zs_iconst (v := nI 0) dX13_begin_23 (by decide) ?_
  refine zs_put 0 dX13_begin_24 zf_RX13_210 rfl (Nat.le_of_ble_eq_true rfl) (zPv_i _) ?_
  show zS _ _ _ _ _ _ [(mo, .inr (11, fMo e (upd (upd (upd (upd g2 2 (nI 0)) 3 (nI n)) 4 (nI L)) 10 (nI 0)) w)), ((e 1), .inl (0, 740, .inl (nF bt))), ((e 14), .inl (0, 800, .inl (mLay g nw)))]
  refine zs_aload_n dX13_begin_27 rfl rfl ?_
  refine zs_iconst (v := nI 0) dX13_begin_28 (by decide) ?_
  refine zs_put 0 dX13_begin_29 zf_RX13_161 rfl (Nat.le_of_ble_eq_true rfl) (zPv_i _) ?_
  show zS _ _ _ _ _ _ [(mo, .inr (11, fMo e (upd (upd (upd (upd (upd g2 2 (nI 0)) 3 (nI n)) 4 (nI L)) 5 (nI 0)) 10 (nI 0)) w)), ((e 1), .inl (0, 740, .inl (nF bt))), ((e 14), .inl (0, 800, .inl (mLay g nw)))]
  refine zs_aload_n dX13_begin_32 rfl rfl ?_
  refine zs_callV (M := mX13_go) (As := []) (st := []) (Kc := [(mo, .inr (11, fMo e (upd (upd (upd (upd (upd g2 2 (nI 0)) 3 (nI n)) 4 (nI L)) 5 (nI 0)) 10 (nI 0)) w)), ((e 1), .inl (0, 740, .inl (nF bt)))]) (Kr := [((e 14), .inl (0, 800, .inl (mLay g nw)))]) [0, 1] [2] 0 dX13_begin_33 zl_RX13_226 kX13_go rfl rfl rfl rfl rfl (by decide) rfl rfl (show dd - 1 + 1 ≤ dd by omega) (Nat.zero_le _) (Nat.zero_le _) (Nat.le_of_ble_eq_true rfl) (s_mGo l (dd - 1) mo e (upd (upd (upd (upd (upd g2 2 (nI 0)) 3 (nI n)) 4 (nI L)) 5 (nI 0)) 10 (nI 0)) w n L bt 0 (by omega) hn hL hbt rfl rfl rfl (Nat.zero_le _)) (fun r K1 hr => ?_)
  obtain ⟨rfl, g', w', hfr, hT', rfl⟩ := hr
  refine zs_K (K' := [(mo, .inr (11, fMo e g' w')), ((e 1), .inl (0, 740, .inl (nF bt))), ((e 14), .inl (0, 800, .inl (mLay g nw)))]) [1, 2, 0] rfl (by decide) ?_
  have h20 : g2 0 = nI 0 := hfr2 0 (by decide)
  exact zs_vret dX13_begin_36 rfl ⟨rfl, g', w', mFr_t (mFr_u (mFr_u (mFr_u (mFr_u (mFr_u (mFr_w (mFr_t (mFr_u mFr_r (by decide) : mFr [0] g (upd g 0 (nI 0))) hfr2 (U := [0, 22]) (by decide) (by decide)) (by decide)) (by decide)) (by decide)) (by decide)) (by decide)) (by decide) : mFr [0, 2, 3, 4, 5, 6, 7, 8, 9, 10, 22] g _) hfr (by decide) (by decide), ⟨(hfr 0 (by decide)).trans (h20), (hfr 2 (by decide)).trans (rfl), (hfr 3 (by decide)).trans (rfl), (hfr 4 (by decide)).trans (rfl), (hfr 10 (by decide)).trans (rfl), (hfr 22 (by decide)).trans (h22)⟩, fun v => hT' v, rfl⟩
theorem dX13_yards_0 : decode cX13_yards 0 = .ok (.aload_n 0, 1) := by decide +kernel
theorem dX13_yards_1 : decode cX13_yards 1 = .ok (.getfield 13, 3) := by decide +kernel
theorem dX13_yards_4 : decode cX13_yards 4 = .ok (.iconst 1, 1) := by decide +kernel
theorem dX13_yards_5 : decode cX13_yards 5 = .ok (.iaload, 1) := by decide +kernel
theorem dX13_yards_6 : decode cX13_yards 6 = .ok (.iload_n 1, 1) := by decide +kernel
theorem dX13_yards_7 : decode cX13_yards 7 = .ok (.iconst 1, 1) := by decide +kernel
theorem dX13_yards_8 : decode cX13_yards 8 = .ok (.isub, 1) := by decide +kernel
theorem dX13_yards_9 : decode cX13_yards 9 = .ok (.invokestatic 328, 3) := by decide +kernel
theorem dX13_yards_12 : decode cX13_yards 12 = .ok (.ireturn, 1) := by decide +kernel
set_option maxRecDepth 100000 in
theorem s_mYards (l : Launch) (dd : Nat) (mo : Nat) (e : Nat → Nat) (g : Nat → Int32) (w : Int64) (nw : Nat → Int32) (D : zYd) (n : Nat) (hd : 1 ≤ dd) (hR : yR D nw) (h5 : D.1 5 ≤ 99) (hn : 2 ≤ n ∧ n ≤ 1000) : zSp l mX13_yards dd 0 0 [.ref mo, .int (nI n)] [(mo, .inr (11, fMo e g w)), ((e 14), .inl (0, 800, .inl nw))] (fun r K' => r = some (.int (nI (nUp (D.1 5) (n - 1)))) ∧ K' = [(mo, .inr (11, fMo e g w))] ++ [((e 14), .inl (0, 800, .inl nw))]) := by
  refine zSp.of (by decide) (Nat.le_of_ble_eq_true rfl) (fun h0 => ?_)
  show zS _ 0 0 0 [(0, .ref mo), (1, .int (nI n))] [] [(mo, .inr (11, fMo e g w)), ((e 14), .inl (0, 800, .inl nw))]
  refine zs_aload_n dX13_yards_0 rfl rfl ?_
  refine zs_get 0 dX13_yards_1 zf_RX13_13 rfl (v := .ref (e 14)) rfl ?_
  refine zs_iconst (v := nI 1) dX13_yards_4 (by decide) ?_
  refine zs_iald 1 dX13_yards_5 rfl (vp_in_nI (by omega) (by omega)) ?_
  refine zs_as (y := nI (D.1 5)) (by rw [nI_c (n := 1) (by omega)]; exact hR.2.1) ?_
  refine zs_iload_n dX13_yards_6 rfl ?_
  refine zs_iconst (v := nI 1) dX13_yards_7 (by decide) ?_
  refine zs_isub dX13_yards_8 ?_
  refine zs_as (y := nI (n - 1)) (nI_sub (by omega)) ?_
  refine zs_callS (M := mX13_up) (As := [.int (nI (D.1 5)), .int (nI (n - 1))]) (st := []) (Kc := []) (Kr := [(mo, .inr (11, fMo e g w)), ((e 14), .inl (0, 800, .inl nw))]) [] [0, 1] dX13_yards_9 zl_RX13_328 kX13_up rfl rfl rfl rfl rfl (by decide) (show dd - 1 + 1 ≤ dd by omega) (Nat.zero_le _) (Nat.zero_le _) (Nat.le_of_ble_eq_true rfl) (s_mUp l (dd - 1) (D.1 5) (n - 1) (by omega) (by omega)) (fun r K1 hr => ?_)
  obtain ⟨rfl, rfl⟩ := hr
  refine zs_K (K' := [(mo, .inr (11, fMo e g w)), ((e 14), .inl (0, 800, .inl nw))]) [0, 1] rfl (by decide) ?_
  exact zs_iret dX13_yards_12 rfl ⟨rfl, rfl⟩
theorem dX13_timeOf_0 : decode cX13_timeOf 0 = .ok (.iload_n 1, 1) := by decide +kernel
theorem dX13_timeOf_1 : decode cX13_timeOf 1 = .ok (.iload_n 2, 1) := by decide +kernel
theorem dX13_timeOf_2 : decode cX13_timeOf 2 = .ok (.iconst 1, 1) := by decide +kernel
theorem dX13_timeOf_3 : decode cX13_timeOf 3 = .ok (.isub, 1) := by decide +kernel
theorem dX13_timeOf_4 : decode cX13_timeOf 4 = .ok (.if_icmp .ne 18, 3) := by decide +kernel
theorem dX13_timeOf_7 : decode cX13_timeOf 7 = .ok (.aload_n 0, 1) := by decide +kernel
theorem dX13_timeOf_8 : decode cX13_timeOf 8 = .ok (.getfield 13, 3) := by decide +kernel
theorem dX13_timeOf_11 : decode cX13_timeOf 11 = .ok (.bipush 8, 2) := by decide +kernel
theorem dX13_timeOf_13 : decode cX13_timeOf 13 = .ok (.iaload, 1) := by decide +kernel
theorem dX13_timeOf_14 : decode cX13_timeOf 14 = .ok (.aload_n 0, 1) := by decide +kernel
theorem dX13_timeOf_15 : decode cX13_timeOf 15 = .ok (.iload_n 3, 1) := by decide +kernel
theorem dX13_timeOf_16 : decode cX13_timeOf 16 = .ok (.iconst 0, 1) := by decide +kernel
theorem dX13_timeOf_17 : decode cX13_timeOf 17 = .ok (.invokevirtual 294, 3) := by decide +kernel
theorem dX13_timeOf_20 : decode cX13_timeOf 20 = .ok (.iadd, 1) := by decide +kernel
theorem dX13_timeOf_21 : decode cX13_timeOf 21 = .ok (.ireturn, 1) := by decide +kernel
theorem dX13_timeOf_22 : decode cX13_timeOf 22 = .ok (.iload_n 1, 1) := by decide +kernel
theorem dX13_timeOf_23 : decode cX13_timeOf 23 = .ok (.ifCond .ne 12, 3) := by decide +kernel
theorem dX13_timeOf_26 : decode cX13_timeOf 26 = .ok (.aload_n 0, 1) := by decide +kernel
theorem dX13_timeOf_27 : decode cX13_timeOf 27 = .ok (.getfield 13, 3) := by decide +kernel
theorem dX13_timeOf_30 : decode cX13_timeOf 30 = .ok (.iconst 4, 1) := by decide +kernel
theorem dX13_timeOf_31 : decode cX13_timeOf 31 = .ok (.iaload, 1) := by decide +kernel
theorem dX13_timeOf_32 : decode cX13_timeOf 32 = .ok (.goto 4, 3) := by decide +kernel
theorem dX13_timeOf_35 : decode cX13_timeOf 35 = .ok (.iconst 0, 1) := by decide +kernel
theorem dX13_timeOf_36 : decode cX13_timeOf 36 = .ok (.aload_n 0, 1) := by decide +kernel
theorem dX13_timeOf_37 : decode cX13_timeOf 37 = .ok (.iload_n 3, 1) := by decide +kernel
theorem dX13_timeOf_38 : decode cX13_timeOf 38 = .ok (.iconst 0, 1) := by decide +kernel
theorem dX13_timeOf_39 : decode cX13_timeOf 39 = .ok (.invokevirtual 294, 3) := by decide +kernel
theorem dX13_timeOf_42 : decode cX13_timeOf 42 = .ok (.iadd, 1) := by decide +kernel
theorem dX13_timeOf_43 : decode cX13_timeOf 43 = .ok (.aload_n 0, 1) := by decide +kernel
theorem dX13_timeOf_44 : decode cX13_timeOf 44 = .ok (.iload_n 2, 1) := by decide +kernel
theorem dX13_timeOf_45 : decode cX13_timeOf 45 = .ok (.invokevirtual 331, 3) := by decide +kernel
theorem dX13_timeOf_48 : decode cX13_timeOf 48 = .ok (.iconst 4, 1) := by decide +kernel
theorem dX13_timeOf_49 : decode cX13_timeOf 49 = .ok (.idiv, 1) := by decide +kernel
theorem dX13_timeOf_50 : decode cX13_timeOf 50 = .ok (.iadd, 1) := by decide +kernel
theorem dX13_timeOf_51 : decode cX13_timeOf 51 = .ok (.ireturn, 1) := by decide +kernel
set_option maxRecDepth 100000 in
theorem s_mTimeOf (l : Launch) (dd : Nat) (mo : Nat) (e : Nat → Nat) (g : Nat → Int32) (w : Int64) (nw : Nat → Int32) (D : zYd) (p n m : Nat) (hd : 2 ≤ dd) (hR : yR D nw) (hD : yI D) (hn : 2 ≤ n ∧ n ≤ 12) (hp : p < n) (hm : m < D.1 0) : zSp l mX13_timeOf dd 0 0 [.ref mo, .int (nI p), .int (nI n), .int (nI m)] [(mo, .inr (11, fMo e g w)), ((e 14), .inl (0, 800, .inl nw))] (fun r K' => r = some (.int (nI (nTime D.1 D.2.2.2.1 m p n))) ∧ K' = [(mo, .inr (11, fMo e g w))] ++ [((e 14), .inl (0, 800, .inl nw))]) := by
  refine zSp.of (by decide) (Nat.le_of_ble_eq_true rfl) (fun h0 => ?_)
  show zS _ 0 0 0 [(0, .ref mo), (1, .int (nI p)), (2, .int (nI n)), (3, .int (nI m))] [] [(mo, .inr (11, fMo e g w)), ((e 14), .inl (0, 800, .inl nw))]
  have hD1 := hD.1
  have h5 := hD.2.2.2.2.2.2.2.2.2.1.2
  have h8 := hD.2.2.2.2.2.2.2.2.2.2.2.2.1.2
  have h12 := hD.2.2.2.2.2.2.2.2.2.2.2.2.2.2.2.2.1.2
  have hh := (hD.2.2.2.2.2.2.2.1 m).1
  have hup : nUp (D.1 5) (n - 1) ≤ 1000 := by unfold nUp; exact Nat.le_trans (Nat.div_le_self _ _) (by omega)
  refine zs_iload_n dX13_timeOf_0 rfl ?_
  refine zs_iload_n dX13_timeOf_1 rfl ?_
  refine zs_iconst (v := nI 1) dX13_timeOf_2 (by decide) ?_
  refine zs_isub dX13_timeOf_3 ?_
  refine zs_as (y := nI (n - 1)) (nI_sub (by omega)) ?_
  refine zs_icmp_ne (tgt := 22) dX13_timeOf_4 (by decide) (fun c_1 => ?_) (fun c_1 => ?_)
  · have c_1 : ¬ (p = (n - 1)) := by have hc := c_1; rw [nI_eq' (by omega) (by omega)] at hc; exact hc
    refine zs_iload_n dX13_timeOf_22 rfl ?_
    refine zs_if_ne (tgt := 35) dX13_timeOf_23 (by decide) (fun c_2 => ?_) (fun c_2 => ?_)
    · have c_2 : ¬ (p = 0) := by have hc := c_2; rw [show (0 : Int32) = nI 0 from rfl] at hc; rw [nI_eq' (by omega) (by omega)] at hc; exact hc
      refine zs_iconst (v := nI 0) dX13_timeOf_35 (by decide) ?_
      refine zs_aload_n dX13_timeOf_36 rfl rfl ?_
      refine zs_iload_n dX13_timeOf_37 rfl ?_
      refine zs_iconst (v := nI 0) dX13_timeOf_38 (by decide) ?_
      refine zs_callV (M := mX13_manOf) (As := [.int (nI m), .int (nI 0)]) (st := [.int (nI 0)]) (Kc := [(mo, .inr (11, fMo e g w)), ((e 14), .inl (0, 800, .inl nw))]) (Kr := []) [0, 1] [] 0 dX13_timeOf_39 zl_RX13_294 kX13_manOf rfl rfl rfl rfl rfl (by decide) rfl rfl (show dd - 1 + 1 ≤ dd by omega) (Nat.zero_le _) (Nat.zero_le _) (Nat.le_of_ble_eq_true rfl) (s_mManOf l (dd - 1) mo e g w nw D m 0 hR hm hD1 (by decide)) (fun r K1 hr => ?_)
      obtain ⟨rfl, rfl⟩ := hr
      refine zs_K (K' := [(mo, .inr (11, fMo e g w)), ((e 14), .inl (0, 800, .inl nw))]) [0, 1] rfl (by decide) ?_
      refine zs_iadd dX13_timeOf_42 ?_
      refine zs_as (y := nI (0 + (D.2.2.2.1 m))) (nI_add _ _) ?_
      refine zs_aload_n dX13_timeOf_43 rfl rfl ?_
      refine zs_iload_n dX13_timeOf_44 rfl ?_
      refine zs_callV (M := mX13_yards) (As := [.int (nI n)]) (st := [.int (nI (0 + (D.2.2.2.1 m)))]) (Kc := [(mo, .inr (11, fMo e g w)), ((e 14), .inl (0, 800, .inl nw))]) (Kr := []) [0, 1] [] 0 dX13_timeOf_45 zl_RX13_331 kX13_yards rfl rfl rfl rfl rfl (by decide) rfl rfl (show dd - 1 + 1 ≤ dd by omega) (Nat.zero_le _) (Nat.zero_le _) (Nat.le_of_ble_eq_true rfl) (s_mYards l (dd - 1) mo e g w nw D n (by omega) hR h5 (by omega)) (fun r K1 hr => ?_)
      obtain ⟨rfl, rfl⟩ := hr
      refine zs_K (K' := [(mo, .inr (11, fMo e g w)), ((e 14), .inl (0, 800, .inl nw))]) [0, 1] rfl (by decide) ?_
      refine zs_iconst (v := nI 4) dX13_timeOf_48 (by decide) ?_
      refine zs_idiv dX13_timeOf_49 (fun hz => by rw [show (0 : Int32) = nI 0 from rfl, nI_eq' (by omega) (by omega)] at hz; omega) ?_
      refine zs_as (y := nI ((nUp (D.1 5) (n - 1)) / 4)) (nI_div (by omega) (by omega) (by omega)) ?_
      refine zs_iadd dX13_timeOf_50 ?_
      refine zs_as (y := nI ((0 + (D.2.2.2.1 m)) + ((nUp (D.1 5) (n - 1)) / 4))) (nI_add _ _) ?_
      exact zs_iret dX13_timeOf_51 rfl ⟨by rw [nTime, if_neg c_1, if_neg c_2] <;> exact congrArg (fun q => some (Value.int (nI q))) (by omega), rfl⟩
    · have c_2 : p = 0 := by have hc := c_2; rw [show (0 : Int32) = nI 0 from rfl] at hc; rw [nI_eq' (by omega) (by omega)] at hc; exact hc
      refine zs_aload_n dX13_timeOf_26 rfl rfl ?_
      refine zs_get 0 dX13_timeOf_27 zf_RX13_13 rfl (v := .ref (e 14)) rfl ?_
      refine zs_iconst (v := nI 4) dX13_timeOf_30 (by decide) ?_
      refine zs_iald 1 dX13_timeOf_31 rfl (vp_in_nI (by omega) (by omega)) ?_
      refine zs_as (y := nI (D.1 8)) (by rw [nI_c (n := 4) (by omega)]; exact hR.2.2.2.2.1) ?_
      refine zs_goto (tgt := 36) dX13_timeOf_32 (by decide) ?_
      refine zs_aload_n dX13_timeOf_36 rfl rfl ?_
      refine zs_iload_n dX13_timeOf_37 rfl ?_
      refine zs_iconst (v := nI 0) dX13_timeOf_38 (by decide) ?_
      refine zs_callV (M := mX13_manOf) (As := [.int (nI m), .int (nI 0)]) (st := [.int (nI (D.1 8))]) (Kc := [(mo, .inr (11, fMo e g w)), ((e 14), .inl (0, 800, .inl nw))]) (Kr := []) [0, 1] [] 0 dX13_timeOf_39 zl_RX13_294 kX13_manOf rfl rfl rfl rfl rfl (by decide) rfl rfl (show dd - 1 + 1 ≤ dd by omega) (Nat.zero_le _) (Nat.zero_le _) (Nat.le_of_ble_eq_true rfl) (s_mManOf l (dd - 1) mo e g w nw D m 0 hR hm hD1 (by decide)) (fun r K1 hr => ?_)
      obtain ⟨rfl, rfl⟩ := hr
      refine zs_K (K' := [(mo, .inr (11, fMo e g w)), ((e 14), .inl (0, 800, .inl nw))]) [0, 1] rfl (by decide) ?_
      refine zs_iadd dX13_timeOf_42 ?_
      refine zs_as (y := nI ((D.1 8) + (D.2.2.2.1 m))) (nI_add _ _) ?_
      refine zs_aload_n dX13_timeOf_43 rfl rfl ?_
      refine zs_iload_n dX13_timeOf_44 rfl ?_
      refine zs_callV (M := mX13_yards) (As := [.int (nI n)]) (st := [.int (nI ((D.1 8) + (D.2.2.2.1 m)))]) (Kc := [(mo, .inr (11, fMo e g w)), ((e 14), .inl (0, 800, .inl nw))]) (Kr := []) [0, 1] [] 0 dX13_timeOf_45 zl_RX13_331 kX13_yards rfl rfl rfl rfl rfl (by decide) rfl rfl (show dd - 1 + 1 ≤ dd by omega) (Nat.zero_le _) (Nat.zero_le _) (Nat.le_of_ble_eq_true rfl) (s_mYards l (dd - 1) mo e g w nw D n (by omega) hR h5 (by omega)) (fun r K1 hr => ?_)
      obtain ⟨rfl, rfl⟩ := hr
      refine zs_K (K' := [(mo, .inr (11, fMo e g w)), ((e 14), .inl (0, 800, .inl nw))]) [0, 1] rfl (by decide) ?_
      refine zs_iconst (v := nI 4) dX13_timeOf_48 (by decide) ?_
      refine zs_idiv dX13_timeOf_49 (fun hz => by rw [show (0 : Int32) = nI 0 from rfl, nI_eq' (by omega) (by omega)] at hz; omega) ?_
      refine zs_as (y := nI ((nUp (D.1 5) (n - 1)) / 4)) (nI_div (by omega) (by omega) (by omega)) ?_
      refine zs_iadd dX13_timeOf_50 ?_
      refine zs_as (y := nI (((D.1 8) + (D.2.2.2.1 m)) + ((nUp (D.1 5) (n - 1)) / 4))) (nI_add _ _) ?_
      exact zs_iret dX13_timeOf_51 rfl ⟨by rw [nTime, if_neg c_1, if_pos c_2] <;> exact congrArg (fun q => some (Value.int (nI q))) (by omega), rfl⟩
  · have c_1 : p = (n - 1) := by have hc := c_1; rw [nI_eq' (by omega) (by omega)] at hc; exact hc
    refine zs_aload_n dX13_timeOf_7 rfl rfl ?_
    refine zs_get 0 dX13_timeOf_8 zf_RX13_13 rfl (v := .ref (e 14)) rfl ?_
    refine zs_bipush (v := nI 8) dX13_timeOf_11 (by decide) ?_
    refine zs_iald 1 dX13_timeOf_13 rfl (vp_in_nI (by omega) (by omega)) ?_
    refine zs_as (y := nI (D.1 12)) (by rw [nI_c (n := 8) (by omega)]; exact hR.2.2.2.2.2.2.2.2.1) ?_
    refine zs_aload_n dX13_timeOf_14 rfl rfl ?_
    refine zs_iload_n dX13_timeOf_15 rfl ?_
    refine zs_iconst (v := nI 0) dX13_timeOf_16 (by decide) ?_
    refine zs_callV (M := mX13_manOf) (As := [.int (nI m), .int (nI 0)]) (st := [.int (nI (D.1 12))]) (Kc := [(mo, .inr (11, fMo e g w)), ((e 14), .inl (0, 800, .inl nw))]) (Kr := []) [0, 1] [] 0 dX13_timeOf_17 zl_RX13_294 kX13_manOf rfl rfl rfl rfl rfl (by decide) rfl rfl (show dd - 1 + 1 ≤ dd by omega) (Nat.zero_le _) (Nat.zero_le _) (Nat.le_of_ble_eq_true rfl) (s_mManOf l (dd - 1) mo e g w nw D m 0 hR hm hD1 (by decide)) (fun r K1 hr => ?_)
    obtain ⟨rfl, rfl⟩ := hr
    refine zs_K (K' := [(mo, .inr (11, fMo e g w)), ((e 14), .inl (0, 800, .inl nw))]) [0, 1] rfl (by decide) ?_
    refine zs_iadd dX13_timeOf_20 ?_
    refine zs_as (y := nI ((D.1 12) + (D.2.2.2.1 m))) (nI_add _ _) ?_
    exact zs_iret dX13_timeOf_21 rfl ⟨by rw [nTime, if_pos c_1] <;> exact congrArg (fun q => some (Value.int (nI q))) (by omega), rfl⟩
theorem dX13_fault_0 : decode cX13_fault 0 = .ok (.aload_n 0, 1) := by decide +kernel
theorem dX13_fault_1 : decode cX13_fault 1 = .ok (.iconst 0, 1) := by decide +kernel
theorem dX13_fault_2 : decode cX13_fault 2 = .ok (.putfield 148, 3) := by decide +kernel
theorem dX13_fault_5 : decode cX13_fault 5 = .ok (.aload_n 0, 1) := by decide +kernel
theorem dX13_fault_6 : decode cX13_fault 6 = .ok (.getfield 210, 3) := by decide +kernel
theorem dX13_fault_9 : decode cX13_fault 9 = .ok (.ireturn, 1) := by decide +kernel
set_option maxRecDepth 100000 in
theorem s_mFault (l : Launch) (dd : Nat) (mo : Nat) (e : Nat → Nat) (g : Nat → Int32) (w : Int64)  : zSp l mX13_fault dd 0 0 [.ref mo] [(mo, .inr (11, fMo e g w))] (fun r K' => r = some (.int (g 10)) ∧ K' = [(mo, .inr (11, fMo e (upd g 0 (nI 0)) w))]) := by
  refine zSp.of (by decide) (Nat.le_of_ble_eq_true rfl) (fun h0 => ?_)
  show zS _ 0 0 0 [(0, .ref mo)] [] [(mo, .inr (11, fMo e g w))]
  refine zs_aload_n dX13_fault_0 rfl rfl ?_
  refine zs_iconst (v := nI 0) dX13_fault_1 (by decide) ?_
  refine zs_put 0 dX13_fault_2 zf_RX13_148 rfl (Nat.le_of_ble_eq_true rfl) (zPv_i _) ?_
  show zS _ _ _ _ _ _ [(mo, .inr (11, fMo e (upd g 0 (nI 0)) w))]
  refine zs_aload_n dX13_fault_5 rfl rfl ?_
  refine zs_get 0 dX13_fault_6 zf_RX13_210 rfl (v := .int (g 10)) rfl ?_
  exact zs_iret dX13_fault_9 rfl ⟨rfl, rfl⟩
