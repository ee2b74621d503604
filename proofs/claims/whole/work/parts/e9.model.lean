theorem cz_0 {D : zYd} (hD : yI D) (h : D.1 14 * D.1 15 = 0) : D.1 14 = 0 := by
  have h1 := hD.2.2.2.2.2.2.2.2.2.2.2.2.2.2.2.2.2.2.1
  rcases Nat.mul_eq_zero.mp h with q | q
  · exact q
  · exact h1 q
/-! ===== the reference: aims, aimAt ===== -/
theorem dX13_aims_0 : decode cX13_aims 0 = .ok (.aload_n 0, 1) := by decide +kernel
theorem dX13_aims_1 : decode cX13_aims 1 = .ok (.iconst 0, 1) := by decide +kernel
theorem dX13_aims_2 : decode cX13_aims 2 = .ok (.putfield 148, 3) := by decide +kernel
theorem dX13_aims_5 : decode cX13_aims 5 = .ok (.aload_n 0, 1) := by decide +kernel
theorem dX13_aims_6 : decode cX13_aims 6 = .ok (.invokevirtual 232, 3) := by decide +kernel
theorem dX13_aims_9 : decode cX13_aims 9 = .ok (.iload_n 1, 1) := by decide +kernel
theorem dX13_aims_10 : decode cX13_aims 10 = .ok (.iconst 1, 1) := by decide +kernel
theorem dX13_aims_11 : decode cX13_aims 11 = .ok (.iconst 3, 1) := by decide +kernel
theorem dX13_aims_12 : decode cX13_aims 12 = .ok (.invokestatic 219, 3) := by decide +kernel
theorem dX13_aims_15 : decode cX13_aims 15 = .ok (.ifCond .eq 21, 3) := by decide +kernel
theorem dX13_aims_18 : decode cX13_aims 18 = .ok (.iload_n 2, 1) := by decide +kernel
theorem dX13_aims_19 : decode cX13_aims 19 = .ok (.iconst 0, 1) := by decide +kernel
theorem dX13_aims_20 : decode cX13_aims 20 = .ok (.sipush 999, 3) := by decide +kernel
theorem dX13_aims_23 : decode cX13_aims 23 = .ok (.invokestatic 219, 3) := by decide +kernel
theorem dX13_aims_26 : decode cX13_aims 26 = .ok (.ifCond .eq 10, 3) := by decide +kernel
theorem dX13_aims_29 : decode cX13_aims 29 = .ok (.aload_n 0, 1) := by decide +kernel
theorem dX13_aims_30 : decode cX13_aims 30 = .ok (.invokevirtual 426, 3) := by decide +kernel
theorem dX13_aims_33 : decode cX13_aims 33 = .ok (.ifCond .ne 5, 3) := by decide +kernel
theorem dX13_aims_36 : decode cX13_aims 36 = .ok (.iconst (-1), 1) := by decide +kernel
theorem dX13_aims_37 : decode cX13_aims 37 = .ok (.ireturn, 1) := by decide +kernel
theorem dX13_aims_38 : decode cX13_aims 38 = .ok (.aload_n 0, 1) := by decide +kernel
theorem dX13_aims_39 : decode cX13_aims 39 = .ok (.invokevirtual 451, 3) := by decide +kernel
theorem dX13_aims_42 : decode cX13_aims 42 = .ok (.aload_n 0, 1) := by decide +kernel
theorem dX13_aims_43 : decode cX13_aims 43 = .ok (.iload_n 1, 1) := by decide +kernel
theorem dX13_aims_44 : decode cX13_aims 44 = .ok (.putfield 467, 3) := by decide +kernel
theorem dX13_aims_47 : decode cX13_aims 47 = .ok (.aload_n 0, 1) := by decide +kernel
theorem dX13_aims_48 : decode cX13_aims 48 = .ok (.iconst (-1), 1) := by decide +kernel
theorem dX13_aims_49 : decode cX13_aims 49 = .ok (.putfield 470, 3) := by decide +kernel
theorem dX13_aims_52 : decode cX13_aims 52 = .ok (.aload_n 0, 1) := by decide +kernel
theorem dX13_aims_53 : decode cX13_aims 53 = .ok (.iconst 0, 1) := by decide +kernel
theorem dX13_aims_54 : decode cX13_aims 54 = .ok (.iload_n 2, 1) := by decide +kernel
theorem dX13_aims_55 : decode cX13_aims 55 = .ok (.invokevirtual 476, 3) := by decide +kernel
theorem dX13_aims_58 : decode cX13_aims 58 = .ok (.aload_n 0, 1) := by decide +kernel
theorem dX13_aims_59 : decode cX13_aims 59 = .ok (.iload_n 1, 1) := by decide +kernel
theorem dX13_aims_60 : decode cX13_aims 60 = .ok (.putfield 482, 3) := by decide +kernel
theorem dX13_aims_63 : decode cX13_aims 63 = .ok (.iconst 0, 1) := by decide +kernel
theorem dX13_aims_64 : decode cX13_aims 64 = .ok (.istore_n 3, 1) := by decide +kernel
theorem dX13_aims_65 : decode cX13_aims 65 = .ok (.iload_n 3, 1) := by decide +kernel
theorem dX13_aims_66 : decode cX13_aims 66 = .ok (.iload_n 1, 1) := by decide +kernel
theorem dX13_aims_67 : decode cX13_aims 67 = .ok (.if_icmp .ge 21, 3) := by decide +kernel
theorem dX13_aims_70 : decode cX13_aims 70 = .ok (.aload_n 0, 1) := by decide +kernel
theorem dX13_aims_71 : decode cX13_aims 71 = .ok (.getfield 139, 3) := by decide +kernel
theorem dX13_aims_74 : decode cX13_aims 74 = .ok (.iload_n 3, 1) := by decide +kernel
theorem dX13_aims_75 : decode cX13_aims 75 = .ok (.aload_n 0, 1) := by decide +kernel
theorem dX13_aims_76 : decode cX13_aims 76 = .ok (.getfield 136, 3) := by decide +kernel
theorem dX13_aims_79 : decode cX13_aims 79 = .ok (.iload_n 3, 1) := by decide +kernel
theorem dX13_aims_80 : decode cX13_aims 80 = .ok (.iaload, 1) := by decide +kernel
theorem dX13_aims_81 : decode cX13_aims 81 = .ok (.iastore, 1) := by decide +kernel
theorem dX13_aims_82 : decode cX13_aims 82 = .ok (.iinc 3 1, 3) := by decide +kernel
theorem dX13_aims_85 : decode cX13_aims 85 = .ok (.goto (-20), 3) := by decide +kernel
theorem dX13_aims_88 : decode cX13_aims 88 = .ok (.aload_n 0, 1) := by decide +kernel
theorem dX13_aims_89 : decode cX13_aims 89 = .ok (.getfield 470, 3) := by decide +kernel
theorem dX13_aims_92 : decode cX13_aims 92 = .ok (.ireturn, 1) := by decide +kernel
theorem dX13_aimAt_0 : decode cX13_aimAt 0 = .ok (.aload_n 0, 1) := by decide +kernel
theorem dX13_aimAt_1 : decode cX13_aimAt 1 = .ok (.iconst 0, 1) := by decide +kernel
theorem dX13_aimAt_2 : decode cX13_aimAt 2 = .ok (.putfield 148, 3) := by decide +kernel
theorem dX13_aimAt_5 : decode cX13_aimAt 5 = .ok (.iload_n 1, 1) := by decide +kernel
theorem dX13_aimAt_6 : decode cX13_aimAt 6 = .ok (.ifCond .lt 20, 3) := by decide +kernel
theorem dX13_aimAt_9 : decode cX13_aimAt 9 = .ok (.iload_n 1, 1) := by decide +kernel
theorem dX13_aimAt_10 : decode cX13_aimAt 10 = .ok (.aload_n 0, 1) := by decide +kernel
theorem dX13_aimAt_11 : decode cX13_aimAt 11 = .ok (.getfield 482, 3) := by decide +kernel
theorem dX13_aimAt_14 : decode cX13_aimAt 14 = .ok (.if_icmp .ge 12, 3) := by decide +kernel
theorem dX13_aimAt_17 : decode cX13_aimAt 17 = .ok (.aload_n 0, 1) := by decide +kernel
theorem dX13_aimAt_18 : decode cX13_aimAt 18 = .ok (.getfield 139, 3) := by decide +kernel
theorem dX13_aimAt_21 : decode cX13_aimAt 21 = .ok (.iload_n 1, 1) := by decide +kernel
theorem dX13_aimAt_22 : decode cX13_aimAt 22 = .ok (.iaload, 1) := by decide +kernel
theorem dX13_aimAt_23 : decode cX13_aimAt 23 = .ok (.goto 4, 3) := by decide +kernel
theorem dX13_aimAt_26 : decode cX13_aimAt 26 = .ok (.iconst (-1), 1) := by decide +kernel
theorem dX13_aimAt_27 : decode cX13_aimAt 27 = .ok (.ireturn, 1) := by decide +kernel
set_option maxRecDepth 100000 in
theorem lp_maims {l : Launch} {dd : Nat} {Po : zPo} {K0 : zK} {h0 : List va_E} {Xo : zK → Prop} {Gc : zG → Prop} (mo : Nat) (e : Nat → Nat) (g : Nat → Int32) (w : Int64) (nw fu bu we he st row best td : Nat → Int32) (M : Nat) (hM : M ≤ 3)
    (hk : zS (l, mX13_aims, dd, Po, K0, h0, Xo, Gc) 0 0 88 [(0, .ref mo)] [] [(mo, .inr (11, fMo e g w)), ((e 14), .inl (0, 800, .inl nw)), ((e 64), .inl (0, 64, .inl fu)), ((e 65), .inl (0, 64, .inl bu)), ((e 66), .inl (0, 64, .inl we)), ((e 67), .inl (0, 64, .inl he)), ((e 77), .inl (0, 576, .inl st)), ((e 78), .inl (0, 3, .inl row)), ((e 79), .inl (0, 3, .inl best)), ((e 80), .inl (0, 3, .inl (pCl best td M)))]) :
    ∀ (m i : Nat) , i + m = M → zS (l, mX13_aims, dd, Po, K0, h0, Xo, Gc) 0 0 65 [(0, .ref mo), (1, .int (nI M)), (3, .int (nI i))] [] [(mo, .inr (11, fMo e g w)), ((e 14), .inl (0, 800, .inl nw)), ((e 64), .inl (0, 64, .inl fu)), ((e 65), .inl (0, 64, .inl bu)), ((e 66), .inl (0, 64, .inl we)), ((e 67), .inl (0, 64, .inl he)), ((e 77), .inl (0, 576, .inl st)), ((e 78), .inl (0, 3, .inl row)), ((e 79), .inl (0, 3, .inl best)), ((e 80), .inl (0, 3, .inl (pCl best td i)))] := by
  intro m
  induction m with
  | zero =>
    intro i hi
    refine zs_iload_n dX13_aims_65 rfl ?_
    refine zs_iload_n dX13_aims_66 rfl ?_
    refine zs_icmp_ge (tgt := 88) dX13_aims_67 (by decide) (fun c_1 => ?_) (fun c_1 => (c_1 (by rw [show i = M by omega]; exact Int32.le_refl _) : False).elim)
    rw [show i = M by omega]
    refine zs_lv [0] rfl ?_
    exact hk
  | succ m ih =>
    intro i hi
    refine zs_iload_n dX13_aims_65 rfl ?_
    refine zs_iload_n dX13_aims_66 rfl ?_
    refine zs_icmp_ge (tgt := 88) dX13_aims_67 (by decide) (fun c_1 => (nI_ge (show i < M by omega) (by omega) c_1 : False).elim) (fun c_1 => ?_)
    refine zs_aload_n dX13_aims_70 rfl rfl ?_
    refine zs_get 0 dX13_aims_71 zf_RX13_139 rfl (v := .ref (e 80)) rfl ?_
    refine zs_iload_n dX13_aims_74 rfl ?_
    refine zs_aload_n dX13_aims_75 rfl rfl ?_
    refine zs_get 0 dX13_aims_76 zf_RX13_136 rfl (v := .ref (e 79)) rfl ?_
    refine zs_iload_n dX13_aims_79 rfl ?_
    refine zs_iald 8 dX13_aims_80 rfl (vp_in_nI (by omega) (by omega)) ?_
    refine zs_as (y := best i) (by rw [nI_c (n := i) (by omega)]) ?_
    refine zs_iast 9 dX13_aims_81 rfl (vp_in_nI (by omega) (by omega)) ?_
    rw [nI_c (n := i) (by omega)]
    rw [show (upd (pCl best td i) i (best i)) = pCl best td (i + 1) from pCl_s _ _ _]
    show zS _ _ _ _ _ _ [(mo, .inr (11, fMo e g w)), ((e 14), .inl (0, 800, .inl nw)), ((e 64), .inl (0, 64, .inl fu)), ((e 65), .inl (0, 64, .inl bu)), ((e 66), .inl (0, 64, .inl we)), ((e 67), .inl (0, 64, .inl he)), ((e 77), .inl (0, 576, .inl st)), ((e 78), .inl (0, 3, .inl row)), ((e 79), .inl (0, 3, .inl best)), ((e 80), .inl (0, 3, .inl (pCl best td (i + 1))))]
    refine zs_iinc (v := (nI (i + 1))) (lv' := [(3, .int (nI (i + 1))), (0, .ref mo), (1, .int (nI M))]) dX13_aims_82 rfl (nI_add _ 1) (Nat.le_of_ble_eq_true rfl) rfl ?_
    refine zs_goto (tgt := 65) dX13_aims_85 (by decide) ?_
    refine zs_lv [1, 2, 0] rfl ?_
    exact ih (i + 1) (by omega)
set_option maxRecDepth 100000 in
theorem s_mAims (l : Launch) (dd : Nat) (mo : Nat) (e : Nat → Nat) (g : Nat → Int32) (w : Int64) (nw : Nat → Int32) (D : zYd) (fu bu we he st row best td : Nat → Int32) (x1 v : Int32) (hd : 10 ≤ dd) (hb : g 22 = 0 ∨ g 22 = 1) (hR : yR D (mLay g nw)) (hD : yI D) (hyB : yB D) : zSp l mX13_aims dd 0 0 [.ref mo, .int x1, .int v] [(mo, .inr (11, fMo e g w)), ((e 14), .inl (0, 800, .inl nw)), ((e 64), .inl (0, 64, .inl fu)), ((e 65), .inl (0, 64, .inl bu)), ((e 66), .inl (0, 64, .inl we)), ((e 67), .inl (0, 64, .inl he)), ((e 77), .inl (0, 576, .inl st)), ((e 78), .inl (0, 3, .inl row)), ((e 79), .inl (0, 3, .inl best)), ((e 80), .inl (0, 3, .inl td))] (fun r K' => (¬ (¬ x1 < nI 1 ∧ ¬ nI 3 < x1 ∧ lTd v = true ∧ ¬ D.1 14 = 0) ∧ r = some (.int (-1)) ∧ ∃ (g' : Nat → Int32), mFr [0, 22] g g' ∧ g' 0 = nI 0 ∧ g' 22 = 1 ∧ K' = [(mo, .inr (11, fMo e g' w)), ((e 14), .inl (0, 800, .inl (mLay g nw))), ((e 64), .inl (0, 64, .inl fu)), ((e 65), .inl (0, 64, .inl bu)), ((e 66), .inl (0, 64, .inl we)), ((e 67), .inl (0, 64, .inl he)), ((e 77), .inl (0, 576, .inl st)), ((e 78), .inl (0, 3, .inl row)), ((e 79), .inl (0, 3, .inl best)), ((e 80), .inl (0, 3, .inl td))]) ∨ (∃ M, 1 ≤ M ∧ M ≤ 3 ∧ x1 = nI M ∧ (¬ x1 < nI 1 ∧ ¬ nI 3 < x1 ∧ lTd v = true ∧ ¬ D.1 14 = 0) ∧ ∃ (g' fu' bu' we' he' st' row' best' td' : Nat → Int32), mFr [0, 22, 70, 81, 82, 83] g g' ∧ g' 0 = nI 0 ∧ g' 22 = 1 ∧ g' 83 = nI M ∧ (∀ s2 : (Nat → Int32) × (Nat → Int32), r = some (.int (chA (D.1 14) (D.1 15) D.2.1 v M 3 (sc0 D, 0, pCnt (nF D.2.2.2.2.2.2.2) (D.1 14 * D.1 15)) (2147483647, s2)).1) ∧ ∀ j, j < M → td' j = (chA (D.1 14) (D.1 15) D.2.1 v M 3 (sc0 D, 0, pCnt (nF D.2.2.2.2.2.2.2) (D.1 14 * D.1 15)) (2147483647, s2)).2.2 j) ∧ K' = [(mo, .inr (11, fMo e g' w)), ((e 14), .inl (0, 800, .inl (mLay g nw))), ((e 64), .inl (0, 64, .inl (fu'))), ((e 65), .inl (0, 64, .inl (bu'))), ((e 66), .inl (0, 64, .inl (we'))), ((e 67), .inl (0, 64, .inl (he'))), ((e 77), .inl (0, 576, .inl (st'))), ((e 78), .inl (0, 3, .inl (row'))), ((e 79), .inl (0, 3, .inl (best'))), ((e 80), .inl (0, 3, .inl (td')))])) := by
  refine zSp.of (by decide) (Nat.le_of_ble_eq_true rfl) (fun h0 => ?_)
  show zS _ 0 0 0 [(0, .ref mo), (1, .int x1), (2, .int v)] [] [(mo, .inr (11, fMo e g w)), ((e 14), .inl (0, 800, .inl nw)), ((e 64), .inl (0, 64, .inl fu)), ((e 65), .inl (0, 64, .inl bu)), ((e 66), .inl (0, 64, .inl we)), ((e 67), .inl (0, 64, .inl he)), ((e 77), .inl (0, 576, .inl st)), ((e 78), .inl (0, 3, .inl row)), ((e 79), .inl (0, 3, .inl best)), ((e 80), .inl (0, 3, .inl td))]
  have hC := hD.2.1
  have hRo := hD.2.2.1
  have h64 : D.1 14 * D.1 15 ≤ 64 := Nat.mul_le_mul hC hRo
  refine zs_aload_n dX13_aims_0 rfl rfl ?_
  refine zs_iconst (v := nI 0) dX13_aims_1 (by decide) ?_
  refine zs_put 0 dX13_aims_2 zf_RX13_148 rfl (Nat.le_of_ble_eq_true rfl) (zPv_i _) ?_
  show zS _ _ _ _ _ _ [(mo, .inr (11, fMo e (upd g 0 (nI 0)) w)), ((e 14), .inl (0, 800, .inl nw)), ((e 64), .inl (0, 64, .inl fu)), ((e 65), .inl (0, 64, .inl bu)), ((e 66), .inl (0, 64, .inl we)), ((e 67), .inl (0, 64, .inl he)), ((e 77), .inl (0, 576, .inl st)), ((e 78), .inl (0, 3, .inl row)), ((e 79), .inl (0, 3, .inl best)), ((e 80), .inl (0, 3, .inl td))]
  refine zs_aload_n dX13_aims_5 rfl rfl ?_
  refine zs_callV (M := mX13_lay) (As := []) (st := []) (Kc := [(mo, .inr (11, fMo e (upd g 0 (nI 0)) w)), ((e 14), .inl (0, 800, .inl nw))]) (Kr := [((e 64), .inl (0, 64, .inl fu)), ((e 65), .inl (0, 64, .inl bu)), ((e 66), .inl (0, 64, .inl we)), ((e 67), .inl (0, 64, .inl he)), ((e 77), .inl (0, 576, .inl st)), ((e 78), .inl (0, 3, .inl row)), ((e 79), .inl (0, 3, .inl best)), ((e 80), .inl (0, 3, .inl td))]) [0, 1] [2, 3, 4, 5, 6, 7, 8, 9] 0 dX13_aims_6 zl_RX13_232 kX13_lay rfl rfl rfl rfl rfl (by decide) rfl rfl (show dd - 1 + 1 ≤ dd by omega) (Nat.zero_le _) (Nat.zero_le _) (Nat.le_of_ble_eq_true rfl) (s_mLay l (dd - 1) mo e (upd g 0 (nI 0)) w nw (by omega) hb) (fun r K1 hr => ?_)
  obtain ⟨rfl, g2, hfr2, h22, rfl⟩ := hr
  rw [show mLay (upd g 0 (nI 0)) nw = mLay g nw from rfl]
  refine zs_K (K' := [(mo, .inr (11, fMo e g2 w)), ((e 14), .inl (0, 800, .inl (mLay g nw))), ((e 64), .inl (0, 64, .inl fu)), ((e 65), .inl (0, 64, .inl bu)), ((e 66), .inl (0, 64, .inl we)), ((e 67), .inl (0, 64, .inl he)), ((e 77), .inl (0, 576, .inl st)), ((e 78), .inl (0, 3, .inl row)), ((e 79), .inl (0, 3, .inl best)), ((e 80), .inl (0, 3, .inl td))]) [8, 9, 0, 1, 2, 3, 4, 5, 6, 7] rfl (by decide) ?_
  refine zs_iload_n dX13_aims_9 rfl ?_
  refine zs_iconst (v := nI 1) dX13_aims_10 (by decide) ?_
  refine zs_iconst (v := nI 3) dX13_aims_11 (by decide) ?_
  refine zs_callS (M := mX13_isIn) (As := [.int x1, .int (nI 1), .int (nI 3)]) (st := []) (Kc := []) (Kr := [(mo, .inr (11, fMo e g2 w)), ((e 14), .inl (0, 800, .inl (mLay g nw))), ((e 64), .inl (0, 64, .inl fu)), ((e 65), .inl (0, 64, .inl bu)), ((e 66), .inl (0, 64, .inl we)), ((e 67), .inl (0, 64, .inl he)), ((e 77), .inl (0, 576, .inl st)), ((e 78), .inl (0, 3, .inl row)), ((e 79), .inl (0, 3, .inl best)), ((e 80), .inl (0, 3, .inl td))]) [] [0, 1, 2, 3, 4, 5, 6, 7, 8, 9] dX13_aims_12 zl_RX13_219 kX13_isIn rfl rfl rfl rfl rfl (by decide) (show dd - 1 + 1 ≤ dd by omega) (Nat.zero_le _) (Nat.zero_le _) (Nat.le_of_ble_eq_true rfl) (s_mIsIn l (dd - 1) x1 (nI 1) (nI 3)) (fun r K1 hr => ?_)
  obtain ⟨rfl, rfl⟩ := hr
  refine zs_K (K' := [(mo, .inr (11, fMo e g2 w)), ((e 14), .inl (0, 800, .inl (mLay g nw))), ((e 64), .inl (0, 64, .inl fu)), ((e 65), .inl (0, 64, .inl bu)), ((e 66), .inl (0, 64, .inl we)), ((e 67), .inl (0, 64, .inl he)), ((e 77), .inl (0, 576, .inl st)), ((e 78), .inl (0, 3, .inl row)), ((e 79), .inl (0, 3, .inl best)), ((e 80), .inl (0, 3, .inl td))]) [0, 1, 2, 3, 4, 5, 6, 7, 8, 9] rfl (by decide) ?_
  refine zs_if_eq (tgt := 36) dX13_aims_15 (by decide) (fun c_1 => ?_) (fun c_1 => ?_)
  · refine zs_iconst (v := (-1)) dX13_aims_36 (by decide) ?_
    exact zs_iret dX13_aims_37 rfl (Or.inl ⟨(fun q => absurd ⟨q.1, q.2.1⟩ (of_decide_eq_false (bI_f c_1))), rfl, g2, (mFr_t (mFr_u mFr_r (by decide) : mFr [0] g (upd g 0 (nI 0))) hfr2 (by decide) (by decide)), hfr2 0 (by decide), h22, rfl⟩)
  · have hc1 := of_decide_eq_true (bI_t c_1)
    refine zs_iload_n dX13_aims_18 rfl ?_
    refine zs_iconst (v := nI 0) dX13_aims_19 (by decide) ?_
    refine zs_sipush (v := nI 999) dX13_aims_20 (by decide) ?_
    refine zs_callS (M := mX13_isIn) (As := [.int v, .int (nI 0), .int (nI 999)]) (st := []) (Kc := []) (Kr := [(mo, .inr (11, fMo e g2 w)), ((e 14), .inl (0, 800, .inl (mLay g nw))), ((e 64), .inl (0, 64, .inl fu)), ((e 65), .inl (0, 64, .inl bu)), ((e 66), .inl (0, 64, .inl we)), ((e 67), .inl (0, 64, .inl he)), ((e 77), .inl (0, 576, .inl st)), ((e 78), .inl (0, 3, .inl row)), ((e 79), .inl (0, 3, .inl best)), ((e 80), .inl (0, 3, .inl td))]) [] [0, 1, 2, 3, 4, 5, 6, 7, 8, 9] dX13_aims_23 zl_RX13_219 kX13_isIn rfl rfl rfl rfl rfl (by decide) (show dd - 1 + 1 ≤ dd by omega) (Nat.zero_le _) (Nat.zero_le _) (Nat.le_of_ble_eq_true rfl) (s_mIsIn l (dd - 1) v (nI 0) (nI 999)) (fun r K1 hr => ?_)
    obtain ⟨rfl, rfl⟩ := hr
    refine zs_K (K' := [(mo, .inr (11, fMo e g2 w)), ((e 14), .inl (0, 800, .inl (mLay g nw))), ((e 64), .inl (0, 64, .inl fu)), ((e 65), .inl (0, 64, .inl bu)), ((e 66), .inl (0, 64, .inl we)), ((e 67), .inl (0, 64, .inl he)), ((e 77), .inl (0, 576, .inl st)), ((e 78), .inl (0, 3, .inl row)), ((e 79), .inl (0, 3, .inl best)), ((e 80), .inl (0, 3, .inl td))]) [0, 1, 2, 3, 4, 5, 6, 7, 8, 9] rfl (by decide) ?_
    refine zs_if_eq (tgt := 36) dX13_aims_26 (by decide) (fun c_2 => ?_) (fun c_2 => ?_)
    · refine zs_iconst (v := (-1)) dX13_aims_36 (by decide) ?_
      exact zs_iret dX13_aims_37 rfl (Or.inl ⟨(fun q => absurd (of_decide_eq_true q.2.2.1) (of_decide_eq_false (bI_f c_2))), rfl, g2, (mFr_t (mFr_u mFr_r (by decide) : mFr [0] g (upd g 0 (nI 0))) hfr2 (by decide) (by decide)), hfr2 0 (by decide), h22, rfl⟩)
    · have hc2 := of_decide_eq_true (bI_t c_2)
      refine zs_aload_n dX13_aims_29 rfl rfl ?_
      refine zs_callV (M := mX13_cells) (As := []) (st := []) (Kc := [(mo, .inr (11, fMo e g2 w)), ((e 14), .inl (0, 800, .inl (mLay g nw)))]) (Kr := [((e 64), .inl (0, 64, .inl fu)), ((e 65), .inl (0, 64, .inl bu)), ((e 66), .inl (0, 64, .inl we)), ((e 67), .inl (0, 64, .inl he)), ((e 77), .inl (0, 576, .inl st)), ((e 78), .inl (0, 3, .inl row)), ((e 79), .inl (0, 3, .inl best)), ((e 80), .inl (0, 3, .inl td))]) [0, 1] [2, 3, 4, 5, 6, 7, 8, 9] 0 dX13_aims_30 zl_RX13_426 kX13_cells rfl rfl rfl rfl rfl (by decide) rfl rfl (show dd - 1 + 1 ≤ dd by omega) (Nat.zero_le _) (Nat.zero_le _) (Nat.le_of_ble_eq_true rfl) (s_mCells l (dd - 1) mo e g2 w (mLay g nw) D hR) (fun r K1 hr => ?_)
      obtain ⟨rfl, rfl⟩ := hr
      refine zs_K (K' := [(mo, .inr (11, fMo e g2 w)), ((e 14), .inl (0, 800, .inl (mLay g nw))), ((e 64), .inl (0, 64, .inl fu)), ((e 65), .inl (0, 64, .inl bu)), ((e 66), .inl (0, 64, .inl we)), ((e 67), .inl (0, 64, .inl he)), ((e 77), .inl (0, 576, .inl st)), ((e 78), .inl (0, 3, .inl row)), ((e 79), .inl (0, 3, .inl best)), ((e 80), .inl (0, 3, .inl td))]) [8, 9, 0, 1, 2, 3, 4, 5, 6, 7] rfl (by decide) ?_
      refine zs_if_ne (tgt := 38) dX13_aims_33 (by decide) (fun c_3 => ?_) (fun c_3 => ?_)
      · have hcz : ¬ nI (D.1 14 * D.1 15) = 0 := c_3
        obtain ⟨M, hM0, rfl⟩ := zi_nn (x := x1) (fun q => hc1.1 (by
          rw [zi_lt] at q ⊢
          rw [nI_t (by decide)]
          have h0 : (0 : Int32).toInt = 0 := by decide
          omega))
        obtain ⟨u, hu0, rfl⟩ := zi_nn (x := v) hc2.1
        have hM1 : 1 ≤ M := by have h := hc1.1; rw [nI_lt' (by omega) (by omega)] at h; omega
        have hM3 : M ≤ 3 := by have h := hc1.2; rw [nI_lt' (by omega) (by omega)] at h; omega
        have hu : u ≤ 999 := by have h := hc2.2; rw [nI_lt' (by omega) (by omega)] at h; omega
        have huM : u * M ≤ u * 3 := Nat.mul_le_mul_left u hM3
        have hcond : (¬ nI M < nI 1 ∧ ¬ nI 3 < nI M ∧ lTd (nI u) = true ∧ ¬ D.1 14 = 0) := ⟨hc1.1, hc1.2, decide_eq_true hc2, fun z => hcz (by rw [z, Nat.zero_mul]; rfl)⟩
        refine zs_aload_n dX13_aims_38 rfl rfl ?_
        refine zs_callV (M := mX13_light) (As := []) (st := []) (Kc := [(mo, .inr (11, fMo e g2 w)), ((e 14), .inl (0, 800, .inl (mLay g nw))), ((e 64), .inl (0, 64, .inl fu)), ((e 65), .inl (0, 64, .inl bu)), ((e 66), .inl (0, 64, .inl we))]) (Kr := [((e 67), .inl (0, 64, .inl he)), ((e 77), .inl (0, 576, .inl st)), ((e 78), .inl (0, 3, .inl row)), ((e 79), .inl (0, 3, .inl best)), ((e 80), .inl (0, 3, .inl td))]) [0, 1, 2, 3, 4] [5, 6, 7, 8, 9] 0 dX13_aims_39 zl_RX13_451 kX13_light rfl rfl rfl rfl rfl (by decide) rfl rfl (show dd - 1 + 1 ≤ dd by omega) (Nat.zero_le _) (Nat.zero_le _) (Nat.le_of_ble_eq_true rfl) (s_mLight l (dd - 1) mo e g2 w (mLay g nw) D fu bu we (by omega) hR hC hRo) (fun r K1 hr => ?_)
        obtain ⟨rfl, rfl⟩ := hr
        refine zs_K (K' := [(mo, .inr (11, fMo e (upd g2 70 (nI 0)) w)), ((e 14), .inl (0, 800, .inl (mLay g nw))), ((e 64), .inl (0, 64, .inl ((pCl (nF D.2.2.2.2.2.2.1) fu (D.1 14 * D.1 15), pCl (fun _ => 0) we (D.1 14 * D.1 15), pCl (nF D.2.2.2.2.2.2.2) bu (D.1 14 * D.1 15)).1))), ((e 65), .inl (0, 64, .inl ((pCl (nF D.2.2.2.2.2.2.1) fu (D.1 14 * D.1 15), pCl (fun _ => 0) we (D.1 14 * D.1 15), pCl (nF D.2.2.2.2.2.2.2) bu (D.1 14 * D.1 15)).2.2))), ((e 66), .inl (0, 64, .inl ((pCl (nF D.2.2.2.2.2.2.1) fu (D.1 14 * D.1 15), pCl (fun _ => 0) we (D.1 14 * D.1 15), pCl (nF D.2.2.2.2.2.2.2) bu (D.1 14 * D.1 15)).2.1))), ((e 67), .inl (0, 64, .inl he)), ((e 77), .inl (0, 576, .inl st)), ((e 78), .inl (0, 3, .inl row)), ((e 79), .inl (0, 3, .inl best)), ((e 80), .inl (0, 3, .inl td))]) [5, 6, 7, 8, 9, 0, 1, 2, 3, 4] rfl (by decide) ?_
        refine zs_aload_n dX13_aims_42 rfl rfl ?_
        refine zs_iload_n dX13_aims_43 rfl ?_
        refine zs_put 0 dX13_aims_44 zf_RX13_467 rfl (Nat.le_of_ble_eq_true rfl) (zPv_i _) ?_
        show zS _ _ _ _ _ _ [(mo, .inr (11, fMo e (upd (upd g2 70 (nI 0)) 82 (nI M)) w)), ((e 14), .inl (0, 800, .inl (mLay g nw))), ((e 64), .inl (0, 64, .inl ((pCl (nF D.2.2.2.2.2.2.1) fu (D.1 14 * D.1 15), pCl (fun _ => 0) we (D.1 14 * D.1 15), pCl (nF D.2.2.2.2.2.2.2) bu (D.1 14 * D.1 15)).1))), ((e 65), .inl (0, 64, .inl ((pCl (nF D.2.2.2.2.2.2.1) fu (D.1 14 * D.1 15), pCl (fun _ => 0) we (D.1 14 * D.1 15), pCl (nF D.2.2.2.2.2.2.2) bu (D.1 14 * D.1 15)).2.2))), ((e 66), .inl (0, 64, .inl ((pCl (nF D.2.2.2.2.2.2.1) fu (D.1 14 * D.1 15), pCl (fun _ => 0) we (D.1 14 * D.1 15), pCl (nF D.2.2.2.2.2.2.2) bu (D.1 14 * D.1 15)).2.1))), ((e 67), .inl (0, 64, .inl he)), ((e 77), .inl (0, 576, .inl st)), ((e 78), .inl (0, 3, .inl row)), ((e 79), .inl (0, 3, .inl best)), ((e 80), .inl (0, 3, .inl td))]
        refine zs_aload_n dX13_aims_47 rfl rfl ?_
        refine zs_iconst (v := (-1)) dX13_aims_48 (by decide) ?_
        refine zs_put 0 dX13_aims_49 zf_RX13_470 rfl (Nat.le_of_ble_eq_true rfl) (zPv_i _) ?_
        show zS _ _ _ _ _ _ [(mo, .inr (11, fMo e (upd (upd (upd g2 70 (nI 0)) 81 (-1)) 82 (nI M)) w)), ((e 14), .inl (0, 800, .inl (mLay g nw))), ((e 64), .inl (0, 64, .inl ((pCl (nF D.2.2.2.2.2.2.1) fu (D.1 14 * D.1 15), pCl (fun _ => 0) we (D.1 14 * D.1 15), pCl (nF D.2.2.2.2.2.2.2) bu (D.1 14 * D.1 15)).1))), ((e 65), .inl (0, 64, .inl ((pCl (nF D.2.2.2.2.2.2.1) fu (D.1 14 * D.1 15), pCl (fun _ => 0) we (D.1 14 * D.1 15), pCl (nF D.2.2.2.2.2.2.2) bu (D.1 14 * D.1 15)).2.2))), ((e 66), .inl (0, 64, .inl ((pCl (nF D.2.2.2.2.2.2.1) fu (D.1 14 * D.1 15), pCl (fun _ => 0) we (D.1 14 * D.1 15), pCl (nF D.2.2.2.2.2.2.2) bu (D.1 14 * D.1 15)).2.1))), ((e 67), .inl (0, 64, .inl he)), ((e 77), .inl (0, 576, .inl st)), ((e 78), .inl (0, 3, .inl row)), ((e 79), .inl (0, 3, .inl best)), ((e 80), .inl (0, 3, .inl td))]
        refine zs_aload_n dX13_aims_52 rfl rfl ?_
        refine zs_iconst (v := nI 0) dX13_aims_53 (by decide) ?_
        refine zs_iload_n dX13_aims_54 rfl ?_
        have hag := sc0_ag (D := D) (n := (D.1 14 * D.1 15)) (fu := fu) (we := we) (bu := bu)
        have hN : nF1 (D.1 14 * D.1 15) 0 0 ((pCl (nF D.2.2.2.2.2.2.1) fu (D.1 14 * D.1 15), pCl (fun _ => 0) we (D.1 14 * D.1 15), pCl (nF D.2.2.2.2.2.2.2) bu (D.1 14 * D.1 15)), 0, pCnt (pCl (nF D.2.2.2.2.2.2.1) fu (D.1 14 * D.1 15), pCl (fun _ => 0) we (D.1 14 * D.1 15), pCl (nF D.2.2.2.2.2.2.2) bu (D.1 14 * D.1 15)).2.2 (D.1 14 * D.1 15)) := ⟨fK_0 hD hyB, rfl, rfl⟩
        refine zs_callV (M := mX13_tryAims) (As := [.int (nI 0), .int (nI u)]) (st := []) (Kc := [(mo, .inr (11, fMo e (upd (upd (upd g2 70 (nI 0)) 81 (-1)) 82 (nI M)) w)), ((e 14), .inl (0, 800, .inl (mLay g nw))), ((e 64), .inl (0, 64, .inl ((pCl (nF D.2.2.2.2.2.2.1) fu (D.1 14 * D.1 15), pCl (fun _ => 0) we (D.1 14 * D.1 15), pCl (nF D.2.2.2.2.2.2.2) bu (D.1 14 * D.1 15)).1))), ((e 65), .inl (0, 64, .inl ((pCl (nF D.2.2.2.2.2.2.1) fu (D.1 14 * D.1 15), pCl (fun _ => 0) we (D.1 14 * D.1 15), pCl (nF D.2.2.2.2.2.2.2) bu (D.1 14 * D.1 15)).2.2))), ((e 66), .inl (0, 64, .inl ((pCl (nF D.2.2.2.2.2.2.1) fu (D.1 14 * D.1 15), pCl (fun _ => 0) we (D.1 14 * D.1 15), pCl (nF D.2.2.2.2.2.2.2) bu (D.1 14 * D.1 15)).2.1))), ((e 67), .inl (0, 64, .inl he)), ((e 77), .inl (0, 576, .inl st)), ((e 78), .inl (0, 3, .inl row)), ((e 79), .inl (0, 3, .inl best))]) (Kr := [((e 80), .inl (0, 3, .inl td))]) [0, 1, 2, 3, 4, 5, 6, 7, 8] [9] 0 dX13_aims_55 zl_RX13_476 kX13_tryAims rfl rfl rfl rfl rfl (by decide) rfl rfl (show dd - 1 + 1 ≤ dd by omega) (Nat.zero_le _) (Nat.zero_le _) (Nat.le_of_ble_eq_true rfl) (s_mTry l mo e g2 w (mLay g nw) D M u hR hC hRo hM3 M (dd - 1) ((pCl (nF D.2.2.2.2.2.2.1) fu (D.1 14 * D.1 15), pCl (fun _ => 0) we (D.1 14 * D.1 15), pCl (nF D.2.2.2.2.2.2.2) bu (D.1 14 * D.1 15)), 0, pCnt (pCl (nF D.2.2.2.2.2.2.1) fu (D.1 14 * D.1 15), pCl (fun _ => 0) we (D.1 14 * D.1 15), pCl (nF D.2.2.2.2.2.2.2) bu (D.1 14 * D.1 15)).2.2 (D.1 14 * D.1 15)) he st (-1, row, best) 0 0 0 (by omega) (Nat.zero_add _) (by omega) (by omega) hN) (fun r K1 hr => ?_)
        obtain ⟨rfl, S2, x2, he2, st2, -, rfl⟩ := hr
        refine zs_K (K' := [(mo, .inr (11, fMo e (upd (upd (upd g2 70 x2) 81 ((rqA (D.1 14) (D.1 15) D.2.1 (nI u) M M ((pCl (nF D.2.2.2.2.2.2.1) fu (D.1 14 * D.1 15), pCl (fun _ => 0) we (D.1 14 * D.1 15), pCl (nF D.2.2.2.2.2.2.2) bu (D.1 14 * D.1 15)), 0, pCnt (pCl (nF D.2.2.2.2.2.2.1) fu (D.1 14 * D.1 15), pCl (fun _ => 0) we (D.1 14 * D.1 15), pCl (nF D.2.2.2.2.2.2.2) bu (D.1 14 * D.1 15)).2.2 (D.1 14 * D.1 15)) (-1, row, best)).1)) 82 (nI M)) w)), ((e 14), .inl (0, 800, .inl (mLay g nw))), ((e 64), .inl (0, 64, .inl (S2.1))), ((e 65), .inl (0, 64, .inl (S2.2.2))), ((e 66), .inl (0, 64, .inl (S2.2.1))), ((e 67), .inl (0, 64, .inl he2)), ((e 77), .inl (0, 576, .inl st2)), ((e 78), .inl (0, 3, .inl ((rqA (D.1 14) (D.1 15) D.2.1 (nI u) M M ((pCl (nF D.2.2.2.2.2.2.1) fu (D.1 14 * D.1 15), pCl (fun _ => 0) we (D.1 14 * D.1 15), pCl (nF D.2.2.2.2.2.2.2) bu (D.1 14 * D.1 15)), 0, pCnt (pCl (nF D.2.2.2.2.2.2.1) fu (D.1 14 * D.1 15), pCl (fun _ => 0) we (D.1 14 * D.1 15), pCl (nF D.2.2.2.2.2.2.2) bu (D.1 14 * D.1 15)).2.2 (D.1 14 * D.1 15)) (-1, row, best)).2.1))), ((e 79), .inl (0, 3, .inl ((rqA (D.1 14) (D.1 15) D.2.1 (nI u) M M ((pCl (nF D.2.2.2.2.2.2.1) fu (D.1 14 * D.1 15), pCl (fun _ => 0) we (D.1 14 * D.1 15), pCl (nF D.2.2.2.2.2.2.2) bu (D.1 14 * D.1 15)), 0, pCnt (pCl (nF D.2.2.2.2.2.2.1) fu (D.1 14 * D.1 15), pCl (fun _ => 0) we (D.1 14 * D.1 15), pCl (nF D.2.2.2.2.2.2.2) bu (D.1 14 * D.1 15)).2.2 (D.1 14 * D.1 15)) (-1, row, best)).2.2))), ((e 80), .inl (0, 3, .inl td))]) [1, 2, 3, 4, 5, 6, 7, 8, 9, 0] rfl (by decide) ?_
        refine zs_aload_n dX13_aims_58 rfl rfl ?_
        refine zs_iload_n dX13_aims_59 rfl ?_
        refine zs_put 0 dX13_aims_60 zf_RX13_482 rfl (Nat.le_of_ble_eq_true rfl) (zPv_i _) ?_
        show zS _ _ _ _ _ _ [(mo, .inr (11, fMo e (upd (upd (upd (upd g2 70 x2) 81 ((rqA (D.1 14) (D.1 15) D.2.1 (nI u) M M ((pCl (nF D.2.2.2.2.2.2.1) fu (D.1 14 * D.1 15), pCl (fun _ => 0) we (D.1 14 * D.1 15), pCl (nF D.2.2.2.2.2.2.2) bu (D.1 14 * D.1 15)), 0, pCnt (pCl (nF D.2.2.2.2.2.2.1) fu (D.1 14 * D.1 15), pCl (fun _ => 0) we (D.1 14 * D.1 15), pCl (nF D.2.2.2.2.2.2.2) bu (D.1 14 * D.1 15)).2.2 (D.1 14 * D.1 15)) (-1, row, best)).1)) 82 (nI M)) 83 (nI M)) w)), ((e 14), .inl (0, 800, .inl (mLay g nw))), ((e 64), .inl (0, 64, .inl (S2.1))), ((e 65), .inl (0, 64, .inl (S2.2.2))), ((e 66), .inl (0, 64, .inl (S2.2.1))), ((e 67), .inl (0, 64, .inl he2)), ((e 77), .inl (0, 576, .inl st2)), ((e 78), .inl (0, 3, .inl ((rqA (D.1 14) (D.1 15) D.2.1 (nI u) M M ((pCl (nF D.2.2.2.2.2.2.1) fu (D.1 14 * D.1 15), pCl (fun _ => 0) we (D.1 14 * D.1 15), pCl (nF D.2.2.2.2.2.2.2) bu (D.1 14 * D.1 15)), 0, pCnt (pCl (nF D.2.2.2.2.2.2.1) fu (D.1 14 * D.1 15), pCl (fun _ => 0) we (D.1 14 * D.1 15), pCl (nF D.2.2.2.2.2.2.2) bu (D.1 14 * D.1 15)).2.2 (D.1 14 * D.1 15)) (-1, row, best)).2.1))), ((e 79), .inl (0, 3, .inl ((rqA (D.1 14) (D.1 15) D.2.1 (nI u) M M ((pCl (nF D.2.2.2.2.2.2.1) fu (D.1 14 * D.1 15), pCl (fun _ => 0) we (D.1 14 * D.1 15), pCl (nF D.2.2.2.2.2.2.2) bu (D.1 14 * D.1 15)), 0, pCnt (pCl (nF D.2.2.2.2.2.2.1) fu (D.1 14 * D.1 15), pCl (fun _ => 0) we (D.1 14 * D.1 15), pCl (nF D.2.2.2.2.2.2.2) bu (D.1 14 * D.1 15)).2.2 (D.1 14 * D.1 15)) (-1, row, best)).2.2))), ((e 80), .inl (0, 3, .inl td))]
        refine zs_iconst (v := nI 0) dX13_aims_63 (by decide) ?_
        refine zs_istore_n (lv' := [(3, .int (nI 0)), (0, .ref mo), (1, .int (nI M)), (2, .int (nI u))]) dX13_aims_64 (Nat.le_of_ble_eq_true rfl) rfl ?_
        refine zs_eq (K' := [(mo, .inr (11, fMo e (upd (upd (upd (upd g2 70 x2) 81 ((rqA (D.1 14) (D.1 15) D.2.1 (nI u) M M ((pCl (nF D.2.2.2.2.2.2.1) fu (D.1 14 * D.1 15), pCl (fun _ => 0) we (D.1 14 * D.1 15), pCl (nF D.2.2.2.2.2.2.2) bu (D.1 14 * D.1 15)), 0, pCnt (pCl (nF D.2.2.2.2.2.2.1) fu (D.1 14 * D.1 15), pCl (fun _ => 0) we (D.1 14 * D.1 15), pCl (nF D.2.2.2.2.2.2.2) bu (D.1 14 * D.1 15)).2.2 (D.1 14 * D.1 15)) (-1, row, best)).1)) 82 (nI M)) 83 (nI M)) w)), ((e 14), .inl (0, 800, .inl (mLay g nw))), ((e 64), .inl (0, 64, .inl (S2.1))), ((e 65), .inl (0, 64, .inl (S2.2.2))), ((e 66), .inl (0, 64, .inl (S2.2.1))), ((e 67), .inl (0, 64, .inl he2)), ((e 77), .inl (0, 576, .inl st2)), ((e 78), .inl (0, 3, .inl ((rqA (D.1 14) (D.1 15) D.2.1 (nI u) M M ((pCl (nF D.2.2.2.2.2.2.1) fu (D.1 14 * D.1 15), pCl (fun _ => 0) we (D.1 14 * D.1 15), pCl (nF D.2.2.2.2.2.2.2) bu (D.1 14 * D.1 15)), 0, pCnt (pCl (nF D.2.2.2.2.2.2.1) fu (D.1 14 * D.1 15), pCl (fun _ => 0) we (D.1 14 * D.1 15), pCl (nF D.2.2.2.2.2.2.2) bu (D.1 14 * D.1 15)).2.2 (D.1 14 * D.1 15)) (-1, row, best)).2.1))), ((e 79), .inl (0, 3, .inl ((rqA (D.1 14) (D.1 15) D.2.1 (nI u) M M ((pCl (nF D.2.2.2.2.2.2.1) fu (D.1 14 * D.1 15), pCl (fun _ => 0) we (D.1 14 * D.1 15), pCl (nF D.2.2.2.2.2.2.2) bu (D.1 14 * D.1 15)), 0, pCnt (pCl (nF D.2.2.2.2.2.2.1) fu (D.1 14 * D.1 15), pCl (fun _ => 0) we (D.1 14 * D.1 15), pCl (nF D.2.2.2.2.2.2.2) bu (D.1 14 * D.1 15)).2.2 (D.1 14 * D.1 15)) (-1, row, best)).2.2))), ((e 80), .inl (0, 3, .inl (pCl ((rqA (D.1 14) (D.1 15) D.2.1 (nI u) M M ((pCl (nF D.2.2.2.2.2.2.1) fu (D.1 14 * D.1 15), pCl (fun _ => 0) we (D.1 14 * D.1 15), pCl (nF D.2.2.2.2.2.2.2) bu (D.1 14 * D.1 15)), 0, pCnt (pCl (nF D.2.2.2.2.2.2.1) fu (D.1 14 * D.1 15), pCl (fun _ => 0) we (D.1 14 * D.1 15), pCl (nF D.2.2.2.2.2.2.2) bu (D.1 14 * D.1 15)).2.2 (D.1 14 * D.1 15)) (-1, row, best)).2.2) td 0)))]) (by rw [pCl_0]) ?_
        refine zs_lv [1, 2, 0] rfl ?_
        refine lp_maims mo e (upd (upd (upd (upd g2 70 x2) 81 ((rqA (D.1 14) (D.1 15) D.2.1 (nI u) M M ((pCl (nF D.2.2.2.2.2.2.1) fu (D.1 14 * D.1 15), pCl (fun _ => 0) we (D.1 14 * D.1 15), pCl (nF D.2.2.2.2.2.2.2) bu (D.1 14 * D.1 15)), 0, pCnt (pCl (nF D.2.2.2.2.2.2.1) fu (D.1 14 * D.1 15), pCl (fun _ => 0) we (D.1 14 * D.1 15), pCl (nF D.2.2.2.2.2.2.2) bu (D.1 14 * D.1 15)).2.2 (D.1 14 * D.1 15)) (-1, row, best)).1)) 82 (nI M)) 83 (nI M)) w (mLay g nw) (S2.1) (S2.2.2) (S2.2.1) he2 st2 ((rqA (D.1 14) (D.1 15) D.2.1 (nI u) M M ((pCl (nF D.2.2.2.2.2.2.1) fu (D.1 14 * D.1 15), pCl (fun _ => 0) we (D.1 14 * D.1 15), pCl (nF D.2.2.2.2.2.2.2) bu (D.1 14 * D.1 15)), 0, pCnt (pCl (nF D.2.2.2.2.2.2.1) fu (D.1 14 * D.1 15), pCl (fun _ => 0) we (D.1 14 * D.1 15), pCl (nF D.2.2.2.2.2.2.2) bu (D.1 14 * D.1 15)).2.2 (D.1 14 * D.1 15)) (-1, row, best)).2.1) ((rqA (D.1 14) (D.1 15) D.2.1 (nI u) M M ((pCl (nF D.2.2.2.2.2.2.1) fu (D.1 14 * D.1 15), pCl (fun _ => 0) we (D.1 14 * D.1 15), pCl (nF D.2.2.2.2.2.2.2) bu (D.1 14 * D.1 15)), 0, pCnt (pCl (nF D.2.2.2.2.2.2.1) fu (D.1 14 * D.1 15), pCl (fun _ => 0) we (D.1 14 * D.1 15), pCl (nF D.2.2.2.2.2.2.2) bu (D.1 14 * D.1 15)).2.2 (D.1 14 * D.1 15)) (-1, row, best)).2.2) td M hM3 ?_ M 0 (Nat.zero_add _)
        refine zs_aload_n dX13_aims_88 rfl rfl ?_
        refine zs_get 0 dX13_aims_89 zf_RX13_470 rfl (v := .int ((rqA (D.1 14) (D.1 15) D.2.1 (nI u) M M ((pCl (nF D.2.2.2.2.2.2.1) fu (D.1 14 * D.1 15), pCl (fun _ => 0) we (D.1 14 * D.1 15), pCl (nF D.2.2.2.2.2.2.2) bu (D.1 14 * D.1 15)), 0, pCnt (pCl (nF D.2.2.2.2.2.2.1) fu (D.1 14 * D.1 15), pCl (fun _ => 0) we (D.1 14 * D.1 15), pCl (nF D.2.2.2.2.2.2.2) bu (D.1 14 * D.1 15)).2.2 (D.1 14 * D.1 15)) (-1, row, best)).1)) rfl ?_
        have hsc : (rqA (D.1 14) (D.1 15) D.2.1 (nI u) M M ((pCl (nF D.2.2.2.2.2.2.1) fu (D.1 14 * D.1 15), pCl (fun _ => 0) we (D.1 14 * D.1 15), pCl (nF D.2.2.2.2.2.2.2) bu (D.1 14 * D.1 15)), 0, pCnt (pCl (nF D.2.2.2.2.2.2.1) fu (D.1 14 * D.1 15), pCl (fun _ => 0) we (D.1 14 * D.1 15), pCl (nF D.2.2.2.2.2.2.2) bu (D.1 14 * D.1 15)).2.2 (D.1 14 * D.1 15)) (-1, row, best)) = rqA (D.1 14) (D.1 15) D.2.1 (nI u) M M (sc0 D, 0, pCnt (nF D.2.2.2.2.2.2.2) (D.1 14 * D.1 15)) (-1, row, best) := rA_ag h64 M ⟨hag, by rw [show pCnt (pCl (nF D.2.2.2.2.2.2.1) fu (D.1 14 * D.1 15), pCl (fun _ => 0) we (D.1 14 * D.1 15), pCl (nF D.2.2.2.2.2.2.2) bu (D.1 14 * D.1 15)).2.2 (D.1 14 * D.1 15) = pCnt (nF D.2.2.2.2.2.2.2) (D.1 14 * D.1 15) from pCnt_ag hag.2.2]⟩
        have hND : nF1 (D.1 14 * D.1 15) 0 0 (sc0 D, 0, pCnt (nF D.2.2.2.2.2.2.2) (D.1 14 * D.1 15)) := ⟨fK_ag ⟨hag.1.symm, hag.2.1.symm, hag.2.2.symm⟩ (fK_0 hD hyB), rfl, rfl⟩
        have hae := fun s2 => aims_e (u := u) (wi := D.2.1) (M := M) h64 hM3 (by omega) (by omega) hND row best s2
        exact zs_iret dX13_aims_92 rfl (Or.inr ⟨M, hM1, hM3, rfl, hcond, (upd (upd (upd (upd g2 70 x2) 81 ((rqA (D.1 14) (D.1 15) D.2.1 (nI u) M M ((pCl (nF D.2.2.2.2.2.2.1) fu (D.1 14 * D.1 15), pCl (fun _ => 0) we (D.1 14 * D.1 15), pCl (nF D.2.2.2.2.2.2.2) bu (D.1 14 * D.1 15)), 0, pCnt (pCl (nF D.2.2.2.2.2.2.1) fu (D.1 14 * D.1 15), pCl (fun _ => 0) we (D.1 14 * D.1 15), pCl (nF D.2.2.2.2.2.2.2) bu (D.1 14 * D.1 15)).2.2 (D.1 14 * D.1 15)) (-1, row, best)).1)) 82 (nI M)) 83 (nI M)), _, _, _, _, _, _, _, _, (mFr_u (mFr_u (mFr_u (mFr_u (mFr_t (mFr_u mFr_r (by decide) : mFr [0] g (upd g 0 (nI 0))) hfr2 (by decide) (by decide) : mFr [0, 22, 70, 81, 82, 83] g g2) (by decide)) (by decide)) (by decide)) (by decide)), hfr2 0 (by decide), h22, rfl, fun s2 => ⟨congrArg (fun v => some (Value.int v)) ((congrArg Prod.fst hsc).trans (hae s2).1.symm), fun j hj => (if_pos hj).trans ((congrArg (fun z : zSs => z.2.2 j) hsc).trans ((hae s2).2 j hj).symm)⟩, rfl⟩)
      · have hcz : nI (D.1 14 * D.1 15) = nI 0 := c_3
        refine zs_iconst (v := (-1)) dX13_aims_36 (by decide) ?_
        exact zs_iret dX13_aims_37 rfl (Or.inl ⟨(fun q => q.2.2.2 (by rw [nI_eq' (by omega) (by omega)] at hcz; exact cz_0 hD hcz)), rfl, g2, (mFr_t (mFr_u mFr_r (by decide) : mFr [0] g (upd g 0 (nI 0))) hfr2 (by decide) (by decide)), hfr2 0 (by decide), h22, rfl⟩)
theorem zi_inx {x : Int32} {M : Nat} (h : ¬ x < 0) (h2 : x < nI M) (hM : M ≤ 3) : vp_in x 3 := by
  obtain ⟨k, hk, rfl⟩ := zi_nn h
  have h3 := (nI_lt' hk (by omega)).mp h2
  exact vp_in_nI (by omega) (by omega)
set_option maxRecDepth 100000 in
theorem s_mAimAt (l : Launch) (dd : Nat) (mo : Nat) (e : Nat → Nat) (g : Nat → Int32) (w : Int64) (td : Nat → Int32) (x : Int32) (M : Nat) (h83 : g 83 = nI M) (hM : M ≤ 3) : zSp l mX13_aimAt dd 0 0 [.ref mo, .int x] [(mo, .inr (11, fMo e g w)), ((e 80), .inl (0, 3, .inl td))] (fun r K' => r = some (.int (aAt M td x)) ∧ K' = [(mo, .inr (11, fMo e (upd g 0 (nI 0)) w)), ((e 80), .inl (0, 3, .inl td))]) := by
  refine zSp.of (by decide) (Nat.le_of_ble_eq_true rfl) (fun h0 => ?_)
  show zS _ 0 0 0 [(0, .ref mo), (1, .int x)] [] [(mo, .inr (11, fMo e g w)), ((e 80), .inl (0, 3, .inl td))]
  refine zs_aload_n dX13_aimAt_0 rfl rfl ?_
  refine zs_iconst (v := nI 0) dX13_aimAt_1 (by decide) ?_
  refine zs_put 0 dX13_aimAt_2 zf_RX13_148 rfl (Nat.le_of_ble_eq_true rfl) (zPv_i _) ?_
  show zS _ _ _ _ _ _ [(mo, .inr (11, fMo e (upd g 0 (nI 0)) w)), ((e 80), .inl (0, 3, .inl td))]
  refine zs_iload_n dX13_aimAt_5 rfl ?_
  refine zs_if_lt (tgt := 26) dX13_aimAt_6 (by decide) (fun c_1 => ?_) (fun c_1 => ?_)
  · have hx0 := c_1
    refine zs_iconst (v := (-1)) dX13_aimAt_26 (by decide) ?_
    exact zs_iret dX13_aimAt_27 rfl ⟨congrArg (fun v => some (Value.int v)) (show aAt M td x = _ from if_pos hx0).symm, rfl⟩
  · have hx0 := c_1
    refine zs_iload_n dX13_aimAt_9 rfl ?_
    refine zs_aload_n dX13_aimAt_10 rfl rfl ?_
    refine zs_get 0 dX13_aimAt_11 zf_RX13_482 rfl (v := .int (g 83)) rfl ?_
    refine zs_as (y := nI M) h83 ?_
    refine zs_icmp_ge (tgt := 26) dX13_aimAt_14 (by decide) (fun c_2 => ?_) (fun c_2 => ?_)
    · have hxM : ¬ x < nI M := Int32.not_lt.mpr c_2
      refine zs_iconst (v := (-1)) dX13_aimAt_26 (by decide) ?_
      exact zs_iret dX13_aimAt_27 rfl ⟨congrArg (fun v => some (Value.int v)) (show aAt M td x = _ from (if_neg hx0).trans (if_neg hxM)).symm, rfl⟩
    · have hxM : x < nI M := Int32.not_le.mp c_2
      refine zs_aload_n dX13_aimAt_17 rfl rfl ?_
      refine zs_get 0 dX13_aimAt_18 zf_RX13_139 rfl (v := .ref (e 80)) rfl ?_
      refine zs_iload_n dX13_aimAt_21 rfl ?_
      refine zs_iald 1 dX13_aimAt_22 rfl (zi_inx hx0 hxM hM) ?_
      refine zs_goto (tgt := 27) dX13_aimAt_23 (by decide) ?_
      exact zs_iret dX13_aimAt_27 rfl ⟨congrArg (fun v => some (Value.int v)) (show aAt M td x = _ from (if_neg hx0).trans (if_pos hxM)).symm, rfl⟩
