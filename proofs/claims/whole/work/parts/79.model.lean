/-! ===== the reference: man, cell, count ===== -/
theorem dX13_man_0 : decode cX13_man 0 = .ok (.aload_n 0, 1) := by decide +kernel
theorem dX13_man_1 : decode cX13_man 1 = .ok (.invokevirtual 232, 3) := by decide +kernel
theorem dX13_man_4 : decode cX13_man 4 = .ok (.iload_n 1, 1) := by decide +kernel
theorem dX13_man_5 : decode cX13_man 5 = .ok (.ifCond .lt 20, 3) := by decide +kernel
theorem dX13_man_8 : decode cX13_man 8 = .ok (.iload_n 1, 1) := by decide +kernel
theorem dX13_man_9 : decode cX13_man 9 = .ok (.aload_n 0, 1) := by decide +kernel
theorem dX13_man_10 : decode cX13_man 10 = .ok (.invokevirtual 288, 3) := by decide +kernel
theorem dX13_man_13 : decode cX13_man 13 = .ok (.if_icmp .ge 12, 3) := by decide +kernel
theorem dX13_man_16 : decode cX13_man 16 = .ok (.iload_n 2, 1) := by decide +kernel
theorem dX13_man_17 : decode cX13_man 17 = .ok (.iconst 0, 1) := by decide +kernel
theorem dX13_man_18 : decode cX13_man 18 = .ok (.iconst 2, 1) := by decide +kernel
theorem dX13_man_19 : decode cX13_man 19 = .ok (.invokestatic 219, 3) := by decide +kernel
theorem dX13_man_22 : decode cX13_man 22 = .ok (.ifCond .ne 8, 3) := by decide +kernel
theorem dX13_man_25 : decode cX13_man 25 = .ok (.aload_n 0, 1) := by decide +kernel
theorem dX13_man_26 : decode cX13_man 26 = .ok (.invokevirtual 291, 3) := by decide +kernel
theorem dX13_man_29 : decode cX13_man 29 = .ok (.ireturn, 1) := by decide +kernel
theorem dX13_man_30 : decode cX13_man 30 = .ok (.aload_n 0, 1) := by decide +kernel
theorem dX13_man_31 : decode cX13_man 31 = .ok (.iconst 0, 1) := by decide +kernel
theorem dX13_man_32 : decode cX13_man 32 = .ok (.putfield 148, 3) := by decide +kernel
theorem dX13_man_35 : decode cX13_man 35 = .ok (.aload_n 0, 1) := by decide +kernel
theorem dX13_man_36 : decode cX13_man 36 = .ok (.iload_n 1, 1) := by decide +kernel
theorem dX13_man_37 : decode cX13_man 37 = .ok (.iload_n 2, 1) := by decide +kernel
theorem dX13_man_38 : decode cX13_man 38 = .ok (.invokevirtual 294, 3) := by decide +kernel
theorem dX13_man_41 : decode cX13_man 41 = .ok (.ireturn, 1) := by decide +kernel
theorem mMa_q {D : zYd} {k j : Nat} (hj : j ≤ 2) : pMa D k (nI j) = nI (mManO D k j) := by
  unfold pMa mManO
  by_cases h0 : j = 0
  · rw [h0, if_pos (show nI 0 = 0 from rfl), if_pos rfl]
  · rw [if_neg (show ¬ nI j = 0 from fun h => h0 (by rw [show (0 : Int32) = nI 0 from rfl, nI_eq' (by omega) (by omega)] at h; exact h)), if_neg h0]
    by_cases h1 : j = 1
    · rw [h1, if_pos rfl, if_pos rfl]
    · rw [if_neg (fun h => h1 (by rw [nI_eq' (by omega) (by omega)] at h; exact h)), if_neg h1]
set_option maxRecDepth 100000 in
theorem s_mMan (l : Launch) (dd : Nat) (mo : Nat) (e : Nat → Nat) (g : Nat → Int32) (w : Int64) (nw : Nat → Int32) (D : zYd) (x q : Int32) (hd : 3 ≤ dd) (hb : g 22 = 0 ∨ g 22 = 1) (hR : yR D (mLay g nw)) (hD : yI D) : zSp l mX13_man dd 0 0 [.ref mo, .int x, .int q] [(mo, .inr (11, fMo e g w)), ((e 14), .inl (0, 800, .inl nw))] (fun r K' => (∃ k, k < D.1 0 ∧ x = nI k ∧ (¬ x < 0 ∧ x < nI (D.1 0) ∧ ¬ q < 0 ∧ ¬ nI 2 < q) ∧ r = some (.int (pMa D k q)) ∧ ∃ g', mFr [0, 22] g g' ∧ g' 0 = nI 0 ∧ g' 22 = 1 ∧ K' = [(mo, .inr (11, fMo e g' w))] ++ [((e 14), .inl (0, 800, .inl (mLay g nw)))]) ∨ (¬ (¬ x < 0 ∧ x < nI (D.1 0) ∧ ¬ q < 0 ∧ ¬ nI 2 < q) ∧ r = some (.int 0) ∧ ∃ g', mFr [0, 22] g g' ∧ g' 0 = nI 1 ∧ g' 22 = 1 ∧ K' = [(mo, .inr (11, fMo e g' w))] ++ [((e 14), .inl (0, 800, .inl (mLay g nw)))])) := by
  refine zSp.of (by decide) (Nat.le_of_ble_eq_true rfl) (fun h0 => ?_)
  show zS _ 0 0 0 [(0, .ref mo), (1, .int x), (2, .int q)] [] [(mo, .inr (11, fMo e g w)), ((e 14), .inl (0, 800, .inl nw))]
  have hD0 := hD.1
  refine zs_aload_n dX13_man_0 rfl rfl ?_
  refine zs_callV (M := mX13_lay) (As := []) (st := []) (Kc := [(mo, .inr (11, fMo e g w)), ((e 14), .inl (0, 800, .inl nw))]) (Kr := []) [0, 1] [] 0 dX13_man_1 zl_RX13_232 kX13_lay rfl rfl rfl rfl rfl (by decide) rfl rfl (show dd - 1 + 1 ≤ dd by omega) (Nat.zero_le _) (Nat.zero_le _) (Nat.le_of_ble_eq_true rfl) (s_mLay l (dd - 1) mo e g w nw (by omega) hb) (fun r K1 hr => ?_)
  obtain ⟨rfl, g2, hfr2, h22, rfl⟩ := hr
  refine zs_K (K' := [(mo, .inr (11, fMo e g2 w)), ((e 14), .inl (0, 800, .inl (mLay g nw)))]) [0, 1] rfl (by decide) ?_
  refine zs_iload_n dX13_man_4 rfl ?_
  refine zs_if_lt (tgt := 25) dX13_man_5 (by decide) (fun c_1 => ?_) (fun c_1 => ?_)
  · refine zs_aload_n dX13_man_25 rfl rfl ?_
    refine zs_callV (M := mX13_refuse) (As := []) (st := []) (Kc := [(mo, .inr (11, fMo e g2 w))]) (Kr := [((e 14), .inl (0, 800, .inl (mLay g nw)))]) [0] [1] 0 dX13_man_26 zl_RX13_291 kX13_refuse rfl rfl rfl rfl rfl (by decide) rfl rfl (show dd - 1 + 1 ≤ dd by omega) (Nat.zero_le _) (Nat.zero_le _) (Nat.le_of_ble_eq_true rfl) (s_mRefuse l (dd - 1) mo e g2 w) (fun r K1 hr => ?_)
    obtain ⟨rfl, rfl⟩ := hr
    refine zs_K (K' := [(mo, .inr (11, fMo e (upd g2 0 (nI 1)) w)), ((e 14), .inl (0, 800, .inl (mLay g nw)))]) [1, 0] rfl (by decide) ?_
    exact zs_iret dX13_man_29 rfl (Or.inr ⟨(fun h => h.1 c_1), rfl, upd g2 0 (nI 1), (mFr_t (mFr_w hfr2 (by decide) : mFr [0, 22] g g2) (mFr_u mFr_r (by decide) : mFr [0, 22] g2 (upd g2 0 (nI 1))) (by decide) (by decide)), rfl, h22, rfl⟩)
  · have d5 := c_1
    refine zs_iload_n dX13_man_8 rfl ?_
    refine zs_aload_n dX13_man_9 rfl rfl ?_
    refine zs_callV (M := mX13_men) (As := []) (st := [.int x]) (Kc := [(mo, .inr (11, fMo e g2 w)), ((e 14), .inl (0, 800, .inl (mLay g nw)))]) (Kr := []) [0, 1] [] 0 dX13_man_10 zl_RX13_288 kX13_men rfl rfl rfl rfl rfl (by decide) rfl rfl (show dd - 1 + 1 ≤ dd by omega) (Nat.zero_le _) (Nat.zero_le _) (Nat.le_of_ble_eq_true rfl) (s_mMen l (dd - 1) mo e g2 w (mLay g nw) D hR) (fun r K1 hr => ?_)
    obtain ⟨rfl, rfl⟩ := hr
    refine zs_K (K' := [(mo, .inr (11, fMo e g2 w)), ((e 14), .inl (0, 800, .inl (mLay g nw)))]) [0, 1] rfl (by decide) ?_
    refine zs_icmp_ge (tgt := 25) dX13_man_13 (by decide) (fun c_2 => ?_) (fun c_2 => ?_)
    · refine zs_aload_n dX13_man_25 rfl rfl ?_
      refine zs_callV (M := mX13_refuse) (As := []) (st := []) (Kc := [(mo, .inr (11, fMo e g2 w))]) (Kr := [((e 14), .inl (0, 800, .inl (mLay g nw)))]) [0] [1] 0 dX13_man_26 zl_RX13_291 kX13_refuse rfl rfl rfl rfl rfl (by decide) rfl rfl (show dd - 1 + 1 ≤ dd by omega) (Nat.zero_le _) (Nat.zero_le _) (Nat.le_of_ble_eq_true rfl) (s_mRefuse l (dd - 1) mo e g2 w) (fun r K1 hr => ?_)
      obtain ⟨rfl, rfl⟩ := hr
      refine zs_K (K' := [(mo, .inr (11, fMo e (upd g2 0 (nI 1)) w)), ((e 14), .inl (0, 800, .inl (mLay g nw)))]) [1, 0] rfl (by decide) ?_
      exact zs_iret dX13_man_29 rfl (Or.inr ⟨(fun h => absurd h.2.1 (Int32.not_lt.mpr c_2)), rfl, upd g2 0 (nI 1), (mFr_t (mFr_w hfr2 (by decide) : mFr [0, 22] g g2) (mFr_u mFr_r (by decide) : mFr [0, 22] g2 (upd g2 0 (nI 1))) (by decide) (by decide)), rfl, h22, rfl⟩)
    · have d13 := Int32.not_le.mp c_2
      refine zs_iload_n dX13_man_16 rfl ?_
      refine zs_iconst (v := nI 0) dX13_man_17 (by decide) ?_
      refine zs_iconst (v := nI 2) dX13_man_18 (by decide) ?_
      refine zs_callS (M := mX13_isIn) (As := [.int q, .int (nI 0), .int (nI 2)]) (st := []) (Kc := []) (Kr := [(mo, .inr (11, fMo e g2 w)), ((e 14), .inl (0, 800, .inl (mLay g nw)))]) [] [0, 1] dX13_man_19 zl_RX13_219 kX13_isIn rfl rfl rfl rfl rfl (by decide) (show dd - 1 + 1 ≤ dd by omega) (Nat.zero_le _) (Nat.zero_le _) (Nat.le_of_ble_eq_true rfl) (s_mIsIn l (dd - 1) q (nI 0) (nI 2)) (fun r K1 hr => ?_)
      obtain ⟨rfl, rfl⟩ := hr
      refine zs_K (K' := [(mo, .inr (11, fMo e g2 w)), ((e 14), .inl (0, 800, .inl (mLay g nw)))]) [0, 1] rfl (by decide) ?_
      refine zs_if_ne (tgt := 30) dX13_man_22 (by decide) (fun c_3 => ?_) (fun c_3 => ?_)
      · have d22 := c_3
        have hin := of_decide_eq_true (bI_t d22)
        have hcond : (¬ x < 0 ∧ x < nI (D.1 0) ∧ ¬ q < 0 ∧ ¬ nI 2 < q) := ⟨d5, d13, hin.1, hin.2⟩
        obtain ⟨k, hk, rfl⟩ := zi_nn d5
        have hkm : k < D.1 0 := by have h := d13; rw [nI_lt' (by omega) (by omega)] at h; exact h
        obtain ⟨j, hj, rfl⟩ := zi_nn hin.1
        have hj2 : j ≤ 2 := by have h := hin.2; rw [nI_lt' (by omega) (by omega)] at h; omega
        refine zs_aload_n dX13_man_30 rfl rfl ?_
        refine zs_iconst (v := nI 0) dX13_man_31 (by decide) ?_
        refine zs_put 0 dX13_man_32 zf_RX13_148 rfl (Nat.le_of_ble_eq_true rfl) (zPv_i _) ?_
        show zS _ _ _ _ _ _ [(mo, .inr (11, fMo e (upd g2 0 (nI 0)) w)), ((e 14), .inl (0, 800, .inl (mLay g nw)))]
        refine zs_aload_n dX13_man_35 rfl rfl ?_
        refine zs_iload_n dX13_man_36 rfl ?_
        refine zs_iload_n dX13_man_37 rfl ?_
        refine zs_callV (M := mX13_manOf) (As := [.int (nI k), .int (nI j)]) (st := []) (Kc := [(mo, .inr (11, fMo e (upd g2 0 (nI 0)) w)), ((e 14), .inl (0, 800, .inl (mLay g nw)))]) (Kr := []) [0, 1] [] 0 dX13_man_38 zl_RX13_294 kX13_manOf rfl rfl rfl rfl rfl (by decide) rfl rfl (show dd - 1 + 1 ≤ dd by omega) (Nat.zero_le _) (Nat.zero_le _) (Nat.le_of_ble_eq_true rfl) (s_mManOf l (dd - 1) mo e (upd g2 0 (nI 0)) w (mLay g nw) D k j hR hkm hD.1 (by omega)) (fun r K1 hr => ?_)
        obtain ⟨rfl, rfl⟩ := hr
        refine zs_K (K' := [(mo, .inr (11, fMo e (upd g2 0 (nI 0)) w)), ((e 14), .inl (0, 800, .inl (mLay g nw)))]) [0, 1] rfl (by decide) ?_
        exact zs_iret dX13_man_41 rfl (Or.inl ⟨k, hkm, rfl, hcond, by rw [mMa_q (by omega)], upd g2 0 (nI 0), (mFr_t (mFr_w hfr2 (by decide) : mFr [0, 22] g g2) (mFr_u mFr_r (by decide) : mFr [0, 22] g2 (upd g2 0 (nI 0))) (by decide) (by decide)), rfl, h22, rfl⟩)
      · refine zs_aload_n dX13_man_25 rfl rfl ?_
        refine zs_callV (M := mX13_refuse) (As := []) (st := []) (Kc := [(mo, .inr (11, fMo e g2 w))]) (Kr := [((e 14), .inl (0, 800, .inl (mLay g nw)))]) [0] [1] 0 dX13_man_26 zl_RX13_291 kX13_refuse rfl rfl rfl rfl rfl (by decide) rfl rfl (show dd - 1 + 1 ≤ dd by omega) (Nat.zero_le _) (Nat.zero_le _) (Nat.le_of_ble_eq_true rfl) (s_mRefuse l (dd - 1) mo e g2 w) (fun r K1 hr => ?_)
        obtain ⟨rfl, rfl⟩ := hr
        refine zs_K (K' := [(mo, .inr (11, fMo e (upd g2 0 (nI 1)) w)), ((e 14), .inl (0, 800, .inl (mLay g nw)))]) [1, 0] rfl (by decide) ?_
        exact zs_iret dX13_man_29 rfl (Or.inr ⟨(fun h => absurd ⟨h.2.2.1, h.2.2.2⟩ (of_decide_eq_false (bI_f c_3))), rfl, upd g2 0 (nI 1), (mFr_t (mFr_w hfr2 (by decide) : mFr [0, 22] g g2) (mFr_u mFr_r (by decide) : mFr [0, 22] g2 (upd g2 0 (nI 1))) (by decide) (by decide)), rfl, h22, rfl⟩)
theorem dX13_cell_0 : decode cX13_cell 0 = .ok (.aload_n 0, 1) := by decide +kernel
theorem dX13_cell_1 : decode cX13_cell 1 = .ok (.invokevirtual 232, 3) := by decide +kernel
theorem dX13_cell_4 : decode cX13_cell 4 = .ok (.iload_n 1, 1) := by decide +kernel
theorem dX13_cell_5 : decode cX13_cell 5 = .ok (.ifCond .lt 35, 3) := by decide +kernel
theorem dX13_cell_8 : decode cX13_cell 8 = .ok (.iload_n 1, 1) := by decide +kernel
theorem dX13_cell_9 : decode cX13_cell 9 = .ok (.aload_n 0, 1) := by decide +kernel
theorem dX13_cell_10 : decode cX13_cell 10 = .ok (.invokevirtual 298, 3) := by decide +kernel
theorem dX13_cell_13 : decode cX13_cell 13 = .ok (.if_icmp .ge 27, 3) := by decide +kernel
theorem dX13_cell_16 : decode cX13_cell 16 = .ok (.iload_n 2, 1) := by decide +kernel
theorem dX13_cell_17 : decode cX13_cell 17 = .ok (.ifCond .lt 23, 3) := by decide +kernel
theorem dX13_cell_20 : decode cX13_cell 20 = .ok (.iload_n 2, 1) := by decide +kernel
theorem dX13_cell_21 : decode cX13_cell 21 = .ok (.aload_n 0, 1) := by decide +kernel
theorem dX13_cell_22 : decode cX13_cell 22 = .ok (.getfield 13, 3) := by decide +kernel
theorem dX13_cell_25 : decode cX13_cell 25 = .ok (.bipush 10, 2) := by decide +kernel
theorem dX13_cell_27 : decode cX13_cell 27 = .ok (.iaload, 1) := by decide +kernel
theorem dX13_cell_28 : decode cX13_cell 28 = .ok (.if_icmp .ge 12, 3) := by decide +kernel
theorem dX13_cell_31 : decode cX13_cell 31 = .ok (.iload_n 3, 1) := by decide +kernel
theorem dX13_cell_32 : decode cX13_cell 32 = .ok (.iconst 0, 1) := by decide +kernel
theorem dX13_cell_33 : decode cX13_cell 33 = .ok (.iconst 1, 1) := by decide +kernel
theorem dX13_cell_34 : decode cX13_cell 34 = .ok (.invokestatic 219, 3) := by decide +kernel
theorem dX13_cell_37 : decode cX13_cell 37 = .ok (.ifCond .ne 8, 3) := by decide +kernel
theorem dX13_cell_40 : decode cX13_cell 40 = .ok (.aload_n 0, 1) := by decide +kernel
theorem dX13_cell_41 : decode cX13_cell 41 = .ok (.invokevirtual 291, 3) := by decide +kernel
theorem dX13_cell_44 : decode cX13_cell 44 = .ok (.ireturn, 1) := by decide +kernel
theorem dX13_cell_45 : decode cX13_cell 45 = .ok (.aload_n 0, 1) := by decide +kernel
theorem dX13_cell_46 : decode cX13_cell 46 = .ok (.iconst 0, 1) := by decide +kernel
theorem dX13_cell_47 : decode cX13_cell 47 = .ok (.putfield 148, 3) := by decide +kernel
theorem dX13_cell_50 : decode cX13_cell 50 = .ok (.aload_n 0, 1) := by decide +kernel
theorem dX13_cell_51 : decode cX13_cell 51 = .ok (.getfield 13, 3) := by decide +kernel
theorem dX13_cell_54 : decode cX13_cell 54 = .ok (.iload_n 3, 1) := by decide +kernel
theorem dX13_cell_55 : decode cX13_cell 55 = .ok (.ifCond .ne 8, 3) := by decide +kernel
theorem dX13_cell_58 : decode cX13_cell 58 = .ok (.bipush 60, 2) := by decide +kernel
theorem dX13_cell_60 : decode cX13_cell 60 = .ok (.goto 6, 3) := by decide +kernel
theorem dX13_cell_63 : decode cX13_cell 63 = .ok (.sipush 130, 3) := by decide +kernel
theorem dX13_cell_66 : decode cX13_cell 66 = .ok (.aload_n 0, 1) := by decide +kernel
theorem dX13_cell_67 : decode cX13_cell 67 = .ok (.invokevirtual 298, 3) := by decide +kernel
theorem dX13_cell_70 : decode cX13_cell 70 = .ok (.iload_n 2, 1) := by decide +kernel
theorem dX13_cell_71 : decode cX13_cell 71 = .ok (.imul, 1) := by decide +kernel
theorem dX13_cell_72 : decode cX13_cell 72 = .ok (.iadd, 1) := by decide +kernel
theorem dX13_cell_73 : decode cX13_cell 73 = .ok (.iload_n 1, 1) := by decide +kernel
theorem dX13_cell_74 : decode cX13_cell 74 = .ok (.iadd, 1) := by decide +kernel
theorem dX13_cell_75 : decode cX13_cell 75 = .ok (.iaload, 1) := by decide +kernel
theorem dX13_cell_76 : decode cX13_cell 76 = .ok (.ireturn, 1) := by decide +kernel
theorem mCe_b {D : zYd} {i : Nat} {q : Int32} (h : ¬ q = 0) (hb : D.2.2.2.2.2.2.2 i ≤ 1) : some (Value.int (nI (D.2.2.2.2.2.2.2 i))) = some (Value.int (pCe D i q)) := by
  unfold pCe
  rw [if_neg h]
  by_cases hz : D.2.2.2.2.2.2.2 i = 0
  · rw [if_pos hz, hz]; rfl
  · rw [if_neg hz, show D.2.2.2.2.2.2.2 i = 1 by omega]; rfl
set_option maxRecDepth 100000 in
theorem s_mCell (l : Launch) (dd : Nat) (mo : Nat) (e : Nat → Nat) (g : Nat → Int32) (w : Int64) (nw : Nat → Int32) (D : zYd) (x1 x2 q : Int32) (hd : 3 ≤ dd) (hb : g 22 = 0 ∨ g 22 = 1) (hR : yR D (mLay g nw)) (hD : yI D) : zSp l mX13_cell dd 0 0 [.ref mo, .int x1, .int x2, .int q] [(mo, .inr (11, fMo e g w)), ((e 14), .inl (0, 800, .inl nw))] (fun r K' => (∃ i j, i < D.1 14 ∧ j < D.1 15 ∧ x1 = nI i ∧ x2 = nI j ∧ (¬ x1 < 0 ∧ x1 < nI (D.1 14) ∧ ¬ x2 < 0 ∧ x2 < nI (D.1 15) ∧ ¬ q < 0 ∧ ¬ nI 1 < q) ∧ r = some (.int (pCe D (j * D.1 14 + i) q)) ∧ ∃ g', mFr [0, 22] g g' ∧ g' 0 = nI 0 ∧ g' 22 = 1 ∧ K' = [(mo, .inr (11, fMo e g' w))] ++ [((e 14), .inl (0, 800, .inl (mLay g nw)))]) ∨ (¬ (¬ x1 < 0 ∧ x1 < nI (D.1 14) ∧ ¬ x2 < 0 ∧ x2 < nI (D.1 15) ∧ ¬ q < 0 ∧ ¬ nI 1 < q) ∧ r = some (.int 0) ∧ ∃ g', mFr [0, 22] g g' ∧ g' 0 = nI 1 ∧ g' 22 = 1 ∧ K' = [(mo, .inr (11, fMo e g' w))] ++ [((e 14), .inl (0, 800, .inl (mLay g nw)))])) := by
  refine zSp.of (by decide) (Nat.le_of_ble_eq_true rfl) (fun h0 => ?_)
  show zS _ 0 0 0 [(0, .ref mo), (1, .int x1), (2, .int x2), (3, .int q)] [] [(mo, .inr (11, fMo e g w)), ((e 14), .inl (0, 800, .inl nw))]
  have hD14 := hD.2.1
  have hD15 := hD.2.2.1
  refine zs_aload_n dX13_cell_0 rfl rfl ?_
  refine zs_callV (M := mX13_lay) (As := []) (st := []) (Kc := [(mo, .inr (11, fMo e g w)), ((e 14), .inl (0, 800, .inl nw))]) (Kr := []) [0, 1] [] 0 dX13_cell_1 zl_RX13_232 kX13_lay rfl rfl rfl rfl rfl (by decide) rfl rfl (show dd - 1 + 1 ≤ dd by omega) (Nat.zero_le _) (Nat.zero_le _) (Nat.le_of_ble_eq_true rfl) (s_mLay l (dd - 1) mo e g w nw (by omega) hb) (fun r K1 hr => ?_)
  obtain ⟨rfl, g2, hfr2, h22, rfl⟩ := hr
  refine zs_K (K' := [(mo, .inr (11, fMo e g2 w)), ((e 14), .inl (0, 800, .inl (mLay g nw)))]) [0, 1] rfl (by decide) ?_
  refine zs_iload_n dX13_cell_4 rfl ?_
  refine zs_if_lt (tgt := 40) dX13_cell_5 (by decide) (fun c_1 => ?_) (fun c_1 => ?_)
  · refine zs_aload_n dX13_cell_40 rfl rfl ?_
    refine zs_callV (M := mX13_refuse) (As := []) (st := []) (Kc := [(mo, .inr (11, fMo e g2 w))]) (Kr := [((e 14), .inl (0, 800, .inl (mLay g nw)))]) [0] [1] 0 dX13_cell_41 zl_RX13_291 kX13_refuse rfl rfl rfl rfl rfl (by decide) rfl rfl (show dd - 1 + 1 ≤ dd by omega) (Nat.zero_le _) (Nat.zero_le _) (Nat.le_of_ble_eq_true rfl) (s_mRefuse l (dd - 1) mo e g2 w) (fun r K1 hr => ?_)
    obtain ⟨rfl, rfl⟩ := hr
    refine zs_K (K' := [(mo, .inr (11, fMo e (upd g2 0 (nI 1)) w)), ((e 14), .inl (0, 800, .inl (mLay g nw)))]) [1, 0] rfl (by decide) ?_
    exact zs_iret dX13_cell_44 rfl (Or.inr ⟨(fun h => h.1 c_1), rfl, upd g2 0 (nI 1), (mFr_t (mFr_w hfr2 (by decide) : mFr [0, 22] g g2) (mFr_u mFr_r (by decide) : mFr [0, 22] g2 (upd g2 0 (nI 1))) (by decide) (by decide)), rfl, h22, rfl⟩)
  · have d5 := c_1
    refine zs_iload_n dX13_cell_8 rfl ?_
    refine zs_aload_n dX13_cell_9 rfl rfl ?_
    refine zs_callV (M := mX13_columns) (As := []) (st := [.int x1]) (Kc := [(mo, .inr (11, fMo e g2 w)), ((e 14), .inl (0, 800, .inl (mLay g nw)))]) (Kr := []) [0, 1] [] 0 dX13_cell_10 zl_RX13_298 kX13_columns rfl rfl rfl rfl rfl (by decide) rfl rfl (show dd - 1 + 1 ≤ dd by omega) (Nat.zero_le _) (Nat.zero_le _) (Nat.le_of_ble_eq_true rfl) (s_mCols l (dd - 1) mo e g2 w (mLay g nw) D hR) (fun r K1 hr => ?_)
    obtain ⟨rfl, rfl⟩ := hr
    refine zs_K (K' := [(mo, .inr (11, fMo e g2 w)), ((e 14), .inl (0, 800, .inl (mLay g nw)))]) [0, 1] rfl (by decide) ?_
    refine zs_icmp_ge (tgt := 40) dX13_cell_13 (by decide) (fun c_2 => ?_) (fun c_2 => ?_)
    · refine zs_aload_n dX13_cell_40 rfl rfl ?_
      refine zs_callV (M := mX13_refuse) (As := []) (st := []) (Kc := [(mo, .inr (11, fMo e g2 w))]) (Kr := [((e 14), .inl (0, 800, .inl (mLay g nw)))]) [0] [1] 0 dX13_cell_41 zl_RX13_291 kX13_refuse rfl rfl rfl rfl rfl (by decide) rfl rfl (show dd - 1 + 1 ≤ dd by omega) (Nat.zero_le _) (Nat.zero_le _) (Nat.le_of_ble_eq_true rfl) (s_mRefuse l (dd - 1) mo e g2 w) (fun r K1 hr => ?_)
      obtain ⟨rfl, rfl⟩ := hr
      refine zs_K (K' := [(mo, .inr (11, fMo e (upd g2 0 (nI 1)) w)), ((e 14), .inl (0, 800, .inl (mLay g nw)))]) [1, 0] rfl (by decide) ?_
      exact zs_iret dX13_cell_44 rfl (Or.inr ⟨(fun h => absurd h.2.1 (Int32.not_lt.mpr c_2)), rfl, upd g2 0 (nI 1), (mFr_t (mFr_w hfr2 (by decide) : mFr [0, 22] g g2) (mFr_u mFr_r (by decide) : mFr [0, 22] g2 (upd g2 0 (nI 1))) (by decide) (by decide)), rfl, h22, rfl⟩)
    · have d13 := Int32.not_le.mp c_2
      refine zs_iload_n dX13_cell_16 rfl ?_
      refine zs_if_lt (tgt := 40) dX13_cell_17 (by decide) (fun c_3 => ?_) (fun c_3 => ?_)
      · refine zs_aload_n dX13_cell_40 rfl rfl ?_
        refine zs_callV (M := mX13_refuse) (As := []) (st := []) (Kc := [(mo, .inr (11, fMo e g2 w))]) (Kr := [((e 14), .inl (0, 800, .inl (mLay g nw)))]) [0] [1] 0 dX13_cell_41 zl_RX13_291 kX13_refuse rfl rfl rfl rfl rfl (by decide) rfl rfl (show dd - 1 + 1 ≤ dd by omega) (Nat.zero_le _) (Nat.zero_le _) (Nat.le_of_ble_eq_true rfl) (s_mRefuse l (dd - 1) mo e g2 w) (fun r K1 hr => ?_)
        obtain ⟨rfl, rfl⟩ := hr
        refine zs_K (K' := [(mo, .inr (11, fMo e (upd g2 0 (nI 1)) w)), ((e 14), .inl (0, 800, .inl (mLay g nw)))]) [1, 0] rfl (by decide) ?_
        exact zs_iret dX13_cell_44 rfl (Or.inr ⟨(fun h => h.2.2.1 c_3), rfl, upd g2 0 (nI 1), (mFr_t (mFr_w hfr2 (by decide) : mFr [0, 22] g g2) (mFr_u mFr_r (by decide) : mFr [0, 22] g2 (upd g2 0 (nI 1))) (by decide) (by decide)), rfl, h22, rfl⟩)
      · have d17 := c_3
        refine zs_iload_n dX13_cell_20 rfl ?_
        refine zs_aload_n dX13_cell_21 rfl rfl ?_
        refine zs_get 0 dX13_cell_22 zf_RX13_13 rfl (v := .ref (e 14)) rfl ?_
        refine zs_bipush (v := nI 10) dX13_cell_25 (by decide) ?_
        refine zs_iald 1 dX13_cell_27 rfl (vp_in_nI (by omega) (by omega)) ?_
        refine zs_as (y := nI (D.1 15)) (by rw [nI_c (n := 10) (by omega)]; exact hR.2.2.2.2.2.2.2.2.2.2.1) ?_
        refine zs_icmp_ge (tgt := 40) dX13_cell_28 (by decide) (fun c_4 => ?_) (fun c_4 => ?_)
        · refine zs_aload_n dX13_cell_40 rfl rfl ?_
          refine zs_callV (M := mX13_refuse) (As := []) (st := []) (Kc := [(mo, .inr (11, fMo e g2 w))]) (Kr := [((e 14), .inl (0, 800, .inl (mLay g nw)))]) [0] [1] 0 dX13_cell_41 zl_RX13_291 kX13_refuse rfl rfl rfl rfl rfl (by decide) rfl rfl (show dd - 1 + 1 ≤ dd by omega) (Nat.zero_le _) (Nat.zero_le _) (Nat.le_of_ble_eq_true rfl) (s_mRefuse l (dd - 1) mo e g2 w) (fun r K1 hr => ?_)
          obtain ⟨rfl, rfl⟩ := hr
          refine zs_K (K' := [(mo, .inr (11, fMo e (upd g2 0 (nI 1)) w)), ((e 14), .inl (0, 800, .inl (mLay g nw)))]) [1, 0] rfl (by decide) ?_
          exact zs_iret dX13_cell_44 rfl (Or.inr ⟨(fun h => absurd h.2.2.2.1 (Int32.not_lt.mpr c_4)), rfl, upd g2 0 (nI 1), (mFr_t (mFr_w hfr2 (by decide) : mFr [0, 22] g g2) (mFr_u mFr_r (by decide) : mFr [0, 22] g2 (upd g2 0 (nI 1))) (by decide) (by decide)), rfl, h22, rfl⟩)
        · have d28 := Int32.not_le.mp c_4
          refine zs_iload_n dX13_cell_31 rfl ?_
          refine zs_iconst (v := nI 0) dX13_cell_32 (by decide) ?_
          refine zs_iconst (v := nI 1) dX13_cell_33 (by decide) ?_
          refine zs_callS (M := mX13_isIn) (As := [.int q, .int (nI 0), .int (nI 1)]) (st := []) (Kc := []) (Kr := [(mo, .inr (11, fMo e g2 w)), ((e 14), .inl (0, 800, .inl (mLay g nw)))]) [] [0, 1] dX13_cell_34 zl_RX13_219 kX13_isIn rfl rfl rfl rfl rfl (by decide) (show dd - 1 + 1 ≤ dd by omega) (Nat.zero_le _) (Nat.zero_le _) (Nat.le_of_ble_eq_true rfl) (s_mIsIn l (dd - 1) q (nI 0) (nI 1)) (fun r K1 hr => ?_)
          obtain ⟨rfl, rfl⟩ := hr
          refine zs_K (K' := [(mo, .inr (11, fMo e g2 w)), ((e 14), .inl (0, 800, .inl (mLay g nw)))]) [0, 1] rfl (by decide) ?_
          refine zs_if_ne (tgt := 45) dX13_cell_37 (by decide) (fun c_5 => ?_) (fun c_5 => ?_)
          · have d37 := c_5
            have hin := of_decide_eq_true (bI_t d37)
            have hcond : (¬ x1 < 0 ∧ x1 < nI (D.1 14) ∧ ¬ x2 < 0 ∧ x2 < nI (D.1 15) ∧ ¬ q < 0 ∧ ¬ nI 1 < q) := ⟨d5, d13, d17, d28, hin.1, hin.2⟩
            obtain ⟨i, hi, rfl⟩ := zi_nn d5
            obtain ⟨j, hj, rfl⟩ := zi_nn d17
            have hiC : i < D.1 14 := by have h := d13; rw [nI_lt' (by omega) (by omega)] at h; exact h
            have hjR : j < D.1 15 := by have h := d28; rw [nI_lt' (by omega) (by omega)] at h; exact h
            have hcm := Nat.mul_comm (D.1 14) j
            have hin2 : (j * D.1 14 + i) < D.1 14 * D.1 15 := by
              have h1 := Nat.mul_le_mul_right (D.1 14) (show j + 1 ≤ D.1 15 by omega)
              rw [Nat.add_mul, Nat.one_mul, Nat.mul_comm (D.1 15) (D.1 14)] at h1
              omega
            have hn64 := Nat.mul_le_mul hD.2.1 hD.2.2.1
            have hb1 := hD.2.2.2.2.2.1 (j * D.1 14 + i)
            have hcc := hR.2.2.2.2.2.2.2.2.2.2.2.2.2 (j * D.1 14 + i) (by omega)
            refine zs_aload_n dX13_cell_45 rfl rfl ?_
            refine zs_iconst (v := nI 0) dX13_cell_46 (by decide) ?_
            refine zs_put 0 dX13_cell_47 zf_RX13_148 rfl (Nat.le_of_ble_eq_true rfl) (zPv_i _) ?_
            show zS _ _ _ _ _ _ [(mo, .inr (11, fMo e (upd g2 0 (nI 0)) w)), ((e 14), .inl (0, 800, .inl (mLay g nw)))]
            refine zs_aload_n dX13_cell_50 rfl rfl ?_
            refine zs_get 0 dX13_cell_51 zf_RX13_13 rfl (v := .ref (e 14)) rfl ?_
            refine zs_iload_n dX13_cell_54 rfl ?_
            refine zs_if_ne (tgt := 63) dX13_cell_55 (by decide) (fun c_6 => ?_) (fun c_6 => ?_)
            · refine zs_sipush (v := nI 130) dX13_cell_63 (by decide) ?_
              refine zs_aload_n dX13_cell_66 rfl rfl ?_
              refine zs_callV (M := mX13_columns) (As := []) (st := [.int (nI 130), .ref (e 14)]) (Kc := [(mo, .inr (11, fMo e (upd g2 0 (nI 0)) w)), ((e 14), .inl (0, 800, .inl (mLay g nw)))]) (Kr := []) [0, 1] [] 0 dX13_cell_67 zl_RX13_298 kX13_columns rfl rfl rfl rfl rfl (by decide) rfl rfl (show dd - 1 + 1 ≤ dd by omega) (Nat.zero_le _) (Nat.zero_le _) (Nat.le_of_ble_eq_true rfl) (s_mCols l (dd - 1) mo e (upd g2 0 (nI 0)) w (mLay g nw) D hR) (fun r K1 hr => ?_)
              obtain ⟨rfl, rfl⟩ := hr
              refine zs_K (K' := [(mo, .inr (11, fMo e (upd g2 0 (nI 0)) w)), ((e 14), .inl (0, 800, .inl (mLay g nw)))]) [0, 1] rfl (by decide) ?_
              refine zs_iload_n dX13_cell_70 rfl ?_
              refine zs_imul dX13_cell_71 ?_
              refine zs_as (y := nI ((D.1 14) * j)) (nI_mul _ _) ?_
              refine zs_iadd dX13_cell_72 ?_
              refine zs_as (y := nI (130 + ((D.1 14) * j))) (nI_add _ _) ?_
              refine zs_iload_n dX13_cell_73 rfl ?_
              refine zs_iadd dX13_cell_74 ?_
              refine zs_as (y := nI ((130 + ((D.1 14) * j)) + i)) (nI_add _ _) ?_
              refine zs_iald 1 dX13_cell_75 rfl (vp_in_nI (by omega) (by omega)) ?_
              refine zs_as (y := nI (D.2.2.2.2.2.2.2 (j * D.1 14 + i))) (by rw [nI_c (by omega), show 130 + D.1 14 * j + i = 130 + (j * D.1 14 + i) by omega]; exact hcc.2) ?_
              exact zs_iret dX13_cell_76 rfl (Or.inl ⟨i, j, hiC, hjR, rfl, rfl, hcond, mCe_b c_6 hb1, upd g2 0 (nI 0), (mFr_t (mFr_w hfr2 (by decide) : mFr [0, 22] g g2) (mFr_u mFr_r (by decide) : mFr [0, 22] g2 (upd g2 0 (nI 0))) (by decide) (by decide)), rfl, h22, rfl⟩)
            · refine zs_bipush (v := nI 60) dX13_cell_58 (by decide) ?_
              refine zs_goto (tgt := 66) dX13_cell_60 (by decide) ?_
              refine zs_aload_n dX13_cell_66 rfl rfl ?_
              refine zs_callV (M := mX13_columns) (As := []) (st := [.int (nI 60), .ref (e 14)]) (Kc := [(mo, .inr (11, fMo e (upd g2 0 (nI 0)) w)), ((e 14), .inl (0, 800, .inl (mLay g nw)))]) (Kr := []) [0, 1] [] 0 dX13_cell_67 zl_RX13_298 kX13_columns rfl rfl rfl rfl rfl (by decide) rfl rfl (show dd - 1 + 1 ≤ dd by omega) (Nat.zero_le _) (Nat.zero_le _) (Nat.le_of_ble_eq_true rfl) (s_mCols l (dd - 1) mo e (upd g2 0 (nI 0)) w (mLay g nw) D hR) (fun r K1 hr => ?_)
              obtain ⟨rfl, rfl⟩ := hr
              refine zs_K (K' := [(mo, .inr (11, fMo e (upd g2 0 (nI 0)) w)), ((e 14), .inl (0, 800, .inl (mLay g nw)))]) [0, 1] rfl (by decide) ?_
              refine zs_iload_n dX13_cell_70 rfl ?_
              refine zs_imul dX13_cell_71 ?_
              refine zs_as (y := nI ((D.1 14) * j)) (nI_mul _ _) ?_
              refine zs_iadd dX13_cell_72 ?_
              refine zs_as (y := nI (60 + ((D.1 14) * j))) (nI_add _ _) ?_
              refine zs_iload_n dX13_cell_73 rfl ?_
              refine zs_iadd dX13_cell_74 ?_
              refine zs_as (y := nI ((60 + ((D.1 14) * j)) + i)) (nI_add _ _) ?_
              refine zs_iald 1 dX13_cell_75 rfl (vp_in_nI (by omega) (by omega)) ?_
              refine zs_as (y := nI (D.2.2.2.2.2.2.1 (j * D.1 14 + i))) (by rw [nI_c (by omega), show 60 + D.1 14 * j + i = 60 + (j * D.1 14 + i) by omega]; exact hcc.1) ?_
              exact zs_iret dX13_cell_76 rfl (Or.inl ⟨i, j, hiC, hjR, rfl, rfl, hcond, by rw [pCe, if_pos c_6], upd g2 0 (nI 0), (mFr_t (mFr_w hfr2 (by decide) : mFr [0, 22] g g2) (mFr_u mFr_r (by decide) : mFr [0, 22] g2 (upd g2 0 (nI 0))) (by decide) (by decide)), rfl, h22, rfl⟩)
          · refine zs_aload_n dX13_cell_40 rfl rfl ?_
            refine zs_callV (M := mX13_refuse) (As := []) (st := []) (Kc := [(mo, .inr (11, fMo e g2 w))]) (Kr := [((e 14), .inl (0, 800, .inl (mLay g nw)))]) [0] [1] 0 dX13_cell_41 zl_RX13_291 kX13_refuse rfl rfl rfl rfl rfl (by decide) rfl rfl (show dd - 1 + 1 ≤ dd by omega) (Nat.zero_le _) (Nat.zero_le _) (Nat.le_of_ble_eq_true rfl) (s_mRefuse l (dd - 1) mo e g2 w) (fun r K1 hr => ?_)
            obtain ⟨rfl, rfl⟩ := hr
            refine zs_K (K' := [(mo, .inr (11, fMo e (upd g2 0 (nI 1)) w)), ((e 14), .inl (0, 800, .inl (mLay g nw)))]) [1, 0] rfl (by decide) ?_
            exact zs_iret dX13_cell_44 rfl (Or.inr ⟨(fun h => absurd ⟨h.2.2.2.2.1, h.2.2.2.2.2⟩ (of_decide_eq_false (bI_f c_5))), rfl, upd g2 0 (nI 1), (mFr_t (mFr_w hfr2 (by decide) : mFr [0, 22] g g2) (mFr_u mFr_r (by decide) : mFr [0, 22] g2 (upd g2 0 (nI 1))) (by decide) (by decide)), rfl, h22, rfl⟩)
theorem dX13_count_0 : decode cX13_count 0 = .ok (.aload_n 0, 1) := by decide +kernel
theorem dX13_count_1 : decode cX13_count 1 = .ok (.iconst 0, 1) := by decide +kernel
theorem dX13_count_2 : decode cX13_count 2 = .ok (.putfield 148, 3) := by decide +kernel
theorem dX13_count_5 : decode cX13_count 5 = .ok (.aload_n 0, 1) := by decide +kernel
theorem dX13_count_6 : decode cX13_count 6 = .ok (.invokevirtual 232, 3) := by decide +kernel
theorem dX13_count_9 : decode cX13_count 9 = .ok (.iload_n 1, 1) := by decide +kernel
theorem dX13_count_10 : decode cX13_count 10 = .ok (.tableswitch 88 0 6 #[42, 47, 52, 60, 67, 76, 81], 42) := by decide +kernel
theorem dX13_count_52 : decode cX13_count 52 = .ok (.aload_n 0, 1) := by decide +kernel
theorem dX13_count_53 : decode cX13_count 53 = .ok (.invokevirtual 288, 3) := by decide +kernel
theorem dX13_count_56 : decode cX13_count 56 = .ok (.ireturn, 1) := by decide +kernel
theorem dX13_count_57 : decode cX13_count 57 = .ok (.aload_n 0, 1) := by decide +kernel
theorem dX13_count_58 : decode cX13_count 58 = .ok (.invokevirtual 298, 3) := by decide +kernel
theorem dX13_count_61 : decode cX13_count 61 = .ok (.ireturn, 1) := by decide +kernel
theorem dX13_count_62 : decode cX13_count 62 = .ok (.aload_n 0, 1) := by decide +kernel
theorem dX13_count_63 : decode cX13_count 63 = .ok (.getfield 13, 3) := by decide +kernel
theorem dX13_count_66 : decode cX13_count 66 = .ok (.bipush 10, 2) := by decide +kernel
theorem dX13_count_68 : decode cX13_count 68 = .ok (.iaload, 1) := by decide +kernel
theorem dX13_count_69 : decode cX13_count 69 = .ok (.ireturn, 1) := by decide +kernel
theorem dX13_count_70 : decode cX13_count 70 = .ok (.aload_n 0, 1) := by decide +kernel
theorem dX13_count_71 : decode cX13_count 71 = .ok (.getfield 13, 3) := by decide +kernel
theorem dX13_count_74 : decode cX13_count 74 = .ok (.iconst 2, 1) := by decide +kernel
theorem dX13_count_75 : decode cX13_count 75 = .ok (.iaload, 1) := by decide +kernel
theorem dX13_count_76 : decode cX13_count 76 = .ok (.ireturn, 1) := by decide +kernel
theorem dX13_count_77 : decode cX13_count 77 = .ok (.aload_n 0, 1) := by decide +kernel
theorem dX13_count_78 : decode cX13_count 78 = .ok (.getfield 13, 3) := by decide +kernel
theorem dX13_count_81 : decode cX13_count 81 = .ok (.sipush 200, 3) := by decide +kernel
theorem dX13_count_84 : decode cX13_count 84 = .ok (.iaload, 1) := by decide +kernel
theorem dX13_count_85 : decode cX13_count 85 = .ok (.ireturn, 1) := by decide +kernel
theorem dX13_count_86 : decode cX13_count 86 = .ok (.aload_n 0, 1) := by decide +kernel
theorem dX13_count_87 : decode cX13_count 87 = .ok (.getfield 151, 3) := by decide +kernel
theorem dX13_count_90 : decode cX13_count 90 = .ok (.ireturn, 1) := by decide +kernel
theorem dX13_count_91 : decode cX13_count 91 = .ok (.aload_n 0, 1) := by decide +kernel
theorem dX13_count_92 : decode cX13_count 92 = .ok (.getfield 13, 3) := by decide +kernel
theorem dX13_count_95 : decode cX13_count 95 = .ok (.iconst 1, 1) := by decide +kernel
theorem dX13_count_96 : decode cX13_count 96 = .ok (.iaload, 1) := by decide +kernel
theorem dX13_count_97 : decode cX13_count 97 = .ok (.ireturn, 1) := by decide +kernel
theorem dX13_count_98 : decode cX13_count 98 = .ok (.iconst (-1), 1) := by decide +kernel
theorem dX13_count_99 : decode cX13_count 99 = .ok (.ireturn, 1) := by decide +kernel
set_option maxRecDepth 100000 in
theorem s_mCount (l : Launch) (dd : Nat) (mo : Nat) (e : Nat → Nat) (g : Nat → Int32) (w : Int64) (nw : Nat → Int32) (D : zYd) (th n : Nat) (x : Int32) (hd : 3 ≤ dd) (hb : g 22 = 0 ∨ g 22 = 1) (hR : yR D (mLay g nw)) (hD : yI D) (h2 : g 2 = nI n) (hth : mLay g nw 200 = nI th) : zSp l mX13_count dd 0 0 [.ref mo, .int x] [(mo, .inr (11, fMo e g w)), ((e 14), .inl (0, 800, .inl nw))] (fun r K' => r = some (.int (pCou D th n x)) ∧ ∃ g', mFr [0, 22] g g' ∧ g' 0 = nI 0 ∧ g' 22 = 1 ∧ K' = [(mo, .inr (11, fMo e g' w))] ++ [((e 14), .inl (0, 800, .inl (mLay g nw)))]) := by
  refine zSp.of (by decide) (Nat.le_of_ble_eq_true rfl) (fun h0 => ?_)
  show zS _ 0 0 0 [(0, .ref mo), (1, .int x)] [] [(mo, .inr (11, fMo e g w)), ((e 14), .inl (0, 800, .inl nw))]
  refine zs_aload_n dX13_count_0 rfl rfl ?_
  refine zs_iconst (v := nI 0) dX13_count_1 (by decide) ?_
  refine zs_put 0 dX13_count_2 zf_RX13_148 rfl (Nat.le_of_ble_eq_true rfl) (zPv_i _) ?_
  show zS _ _ _ _ _ _ [(mo, .inr (11, fMo e (upd g 0 (nI 0)) w)), ((e 14), .inl (0, 800, .inl nw))]
  refine zs_aload_n dX13_count_5 rfl rfl ?_
  refine zs_callV (M := mX13_lay) (As := []) (st := []) (Kc := [(mo, .inr (11, fMo e (upd g 0 (nI 0)) w)), ((e 14), .inl (0, 800, .inl nw))]) (Kr := []) [0, 1] [] 0 dX13_count_6 zl_RX13_232 kX13_lay rfl rfl rfl rfl rfl (by decide) rfl rfl (show dd - 1 + 1 ≤ dd by omega) (Nat.zero_le _) (Nat.zero_le _) (Nat.le_of_ble_eq_true rfl) (s_mLay l (dd - 1) mo e (upd g 0 (nI 0)) w nw (by omega) hb) (fun r K1 hr => ?_)
  obtain ⟨rfl, g2, hfr2, h22, rfl⟩ := hr
  refine zs_K (K' := [(mo, .inr (11, fMo e g2 w)), ((e 14), .inl (0, 800, .inl (mLay g nw)))]) [0, 1] rfl (by decide) ?_
  refine zs_iload_n dX13_count_9 rfl ?_
  by_cases h10_0 : x = nI 0
  · refine zs_as (y := nI 0) h10_0 ?_
    refine zs_tableIn (off := 42) (tgt := 52) dX13_count_10 (by decide) (by decide) rfl (by decide) ?_
    refine zs_aload_n dX13_count_52 rfl rfl ?_
    refine zs_callV (M := mX13_men) (As := []) (st := []) (Kc := [(mo, .inr (11, fMo e g2 w)), ((e 14), .inl (0, 800, .inl (mLay g nw)))]) (Kr := []) [0, 1] [] 0 dX13_count_53 zl_RX13_288 kX13_men rfl rfl rfl rfl rfl (by decide) rfl rfl (show dd - 1 + 1 ≤ dd by omega) (Nat.zero_le _) (Nat.zero_le _) (Nat.le_of_ble_eq_true rfl) (s_mMen l (dd - 1) mo e g2 w (mLay g nw) D hR) (fun r K1 hr => ?_)
    obtain ⟨rfl, rfl⟩ := hr
    refine zs_K (K' := [(mo, .inr (11, fMo e g2 w)), ((e 14), .inl (0, 800, .inl (mLay g nw)))]) [0, 1] rfl (by decide) ?_
    exact zs_iret dX13_count_56 rfl ⟨by rw [pCou, if_pos h10_0], g2, (mFr_t (mFr_u mFr_r (by decide) : mFr [0] g (upd g 0 (nI 0))) hfr2 (U := [0, 22]) (by decide) (by decide)), hfr2 0 (by decide), h22, rfl⟩
  by_cases h10_1 : x = nI 1
  · refine zs_as (y := nI 1) h10_1 ?_
    refine zs_tableIn (off := 47) (tgt := 57) dX13_count_10 (by decide) (by decide) rfl (by decide) ?_
    refine zs_aload_n dX13_count_57 rfl rfl ?_
    refine zs_callV (M := mX13_columns) (As := []) (st := []) (Kc := [(mo, .inr (11, fMo e g2 w)), ((e 14), .inl (0, 800, .inl (mLay g nw)))]) (Kr := []) [0, 1] [] 0 dX13_count_58 zl_RX13_298 kX13_columns rfl rfl rfl rfl rfl (by decide) rfl rfl (show dd - 1 + 1 ≤ dd by omega) (Nat.zero_le _) (Nat.zero_le _) (Nat.le_of_ble_eq_true rfl) (s_mCols l (dd - 1) mo e g2 w (mLay g nw) D hR) (fun r K1 hr => ?_)
    obtain ⟨rfl, rfl⟩ := hr
    refine zs_K (K' := [(mo, .inr (11, fMo e g2 w)), ((e 14), .inl (0, 800, .inl (mLay g nw)))]) [0, 1] rfl (by decide) ?_
    exact zs_iret dX13_count_61 rfl ⟨by rw [pCou, if_neg h10_0, if_pos h10_1], g2, (mFr_t (mFr_u mFr_r (by decide) : mFr [0] g (upd g 0 (nI 0))) hfr2 (U := [0, 22]) (by decide) (by decide)), hfr2 0 (by decide), h22, rfl⟩
  by_cases h10_2 : x = nI 2
  · refine zs_as (y := nI 2) h10_2 ?_
    refine zs_tableIn (off := 52) (tgt := 62) dX13_count_10 (by decide) (by decide) rfl (by decide) ?_
    refine zs_aload_n dX13_count_62 rfl rfl ?_
    refine zs_get 0 dX13_count_63 zf_RX13_13 rfl (v := .ref (e 14)) rfl ?_
    refine zs_bipush (v := nI 10) dX13_count_66 (by decide) ?_
    refine zs_iald 1 dX13_count_68 rfl (vp_in_nI (by omega) (by omega)) ?_
    refine zs_as (y := nI (D.1 15)) (by rw [nI_c (n := 10) (by omega)]; exact hR.2.2.2.2.2.2.2.2.2.2.1) ?_
    exact zs_iret dX13_count_69 rfl ⟨by rw [pCou, if_neg h10_0, if_neg h10_1, if_pos h10_2], g2, (mFr_t (mFr_u mFr_r (by decide) : mFr [0] g (upd g 0 (nI 0))) hfr2 (U := [0, 22]) (by decide) (by decide)), hfr2 0 (by decide), h22, rfl⟩
  by_cases h10_3 : x = nI 3
  · refine zs_as (y := nI 3) h10_3 ?_
    refine zs_tableIn (off := 60) (tgt := 70) dX13_count_10 (by decide) (by decide) rfl (by decide) ?_
    refine zs_aload_n dX13_count_70 rfl rfl ?_
    refine zs_get 0 dX13_count_71 zf_RX13_13 rfl (v := .ref (e 14)) rfl ?_
    refine zs_iconst (v := nI 2) dX13_count_74 (by decide) ?_
    refine zs_iald 1 dX13_count_75 rfl (vp_in_nI (by omega) (by omega)) ?_
    refine zs_as (y := nI (D.1 6)) (by rw [nI_c (n := 2) (by omega)]; exact hR.2.2.1) ?_
    exact zs_iret dX13_count_76 rfl ⟨by rw [pCou, if_neg h10_0, if_neg h10_1, if_neg h10_2, if_pos h10_3], g2, (mFr_t (mFr_u mFr_r (by decide) : mFr [0] g (upd g 0 (nI 0))) hfr2 (U := [0, 22]) (by decide) (by decide)), hfr2 0 (by decide), h22, rfl⟩
  by_cases h10_4 : x = nI 4
  · refine zs_as (y := nI 4) h10_4 ?_
    refine zs_tableIn (off := 67) (tgt := 77) dX13_count_10 (by decide) (by decide) rfl (by decide) ?_
    refine zs_aload_n dX13_count_77 rfl rfl ?_
    refine zs_get 0 dX13_count_78 zf_RX13_13 rfl (v := .ref (e 14)) rfl ?_
    refine zs_sipush (v := nI 200) dX13_count_81 (by decide) ?_
    refine zs_iald 1 dX13_count_84 rfl (vp_in_nI (by omega) (by omega)) ?_
    refine zs_as (y := nI th) (by rw [nI_c (n := 200) (by omega)]; exact hth) ?_
    exact zs_iret dX13_count_85 rfl ⟨by rw [pCou, if_neg h10_0, if_neg h10_1, if_neg h10_2, if_neg h10_3, if_pos h10_4], g2, (mFr_t (mFr_u mFr_r (by decide) : mFr [0] g (upd g 0 (nI 0))) hfr2 (U := [0, 22]) (by decide) (by decide)), hfr2 0 (by decide), h22, rfl⟩
  by_cases h10_5 : x = nI 5
  · refine zs_as (y := nI 5) h10_5 ?_
    refine zs_tableIn (off := 76) (tgt := 86) dX13_count_10 (by decide) (by decide) rfl (by decide) ?_
    refine zs_aload_n dX13_count_86 rfl rfl ?_
    refine zs_get 0 dX13_count_87 zf_RX13_151 rfl (v := .int (g2 2)) rfl ?_
    refine zs_as (y := nI n) ((hfr2 2 (by decide)).trans h2) ?_
    exact zs_iret dX13_count_90 rfl ⟨by rw [pCou, if_neg h10_0, if_neg h10_1, if_neg h10_2, if_neg h10_3, if_neg h10_4, if_pos h10_5], g2, (mFr_t (mFr_u mFr_r (by decide) : mFr [0] g (upd g 0 (nI 0))) hfr2 (U := [0, 22]) (by decide) (by decide)), hfr2 0 (by decide), h22, rfl⟩
  by_cases h10_6 : x = nI 6
  · refine zs_as (y := nI 6) h10_6 ?_
    refine zs_tableIn (off := 81) (tgt := 91) dX13_count_10 (by decide) (by decide) rfl (by decide) ?_
    refine zs_aload_n dX13_count_91 rfl rfl ?_
    refine zs_get 0 dX13_count_92 zf_RX13_13 rfl (v := .ref (e 14)) rfl ?_
    refine zs_iconst (v := nI 1) dX13_count_95 (by decide) ?_
    refine zs_iald 1 dX13_count_96 rfl (vp_in_nI (by omega) (by omega)) ?_
    refine zs_as (y := nI (D.1 5)) (by rw [nI_c (n := 1) (by omega)]; exact hR.2.1) ?_
    exact zs_iret dX13_count_97 rfl ⟨by rw [pCou, if_neg h10_0, if_neg h10_1, if_neg h10_2, if_neg h10_3, if_neg h10_4, if_neg h10_5, if_pos h10_6], g2, (mFr_t (mFr_u mFr_r (by decide) : mFr [0] g (upd g 0 (nI 0))) hfr2 (U := [0, 22]) (by decide) (by decide)), hfr2 0 (by decide), h22, rfl⟩
  refine zs_tableOut (tgt := 98) dX13_count_10 (by have q0 := zi_nk (k := 0) (by decide) h10_0; have q1 := zi_nk (k := 1) (by decide) h10_1; have q2 := zi_nk (k := 2) (by decide) h10_2; have q3 := zi_nk (k := 3) (by decide) h10_3; have q4 := zi_nk (k := 4) (by decide) h10_4; have q5 := zi_nk (k := 5) (by decide) h10_5; have q6 := zi_nk (k := 6) (by decide) h10_6; omega) (by decide) ?_
  refine zs_iconst (v := (-1)) dX13_count_98 (by decide) ?_
  exact zs_iret dX13_count_99 rfl ⟨by rw [pCou, if_neg h10_0, if_neg h10_1, if_neg h10_2, if_neg h10_3, if_neg h10_4, if_neg h10_5, if_neg h10_6], g2, (mFr_t (mFr_u mFr_r (by decide) : mFr [0] g (upd g 0 (nI 0))) hfr2 (U := [0, 22]) (by decide) (by decide)), hfr2 0 (by decide), h22, rfl⟩
