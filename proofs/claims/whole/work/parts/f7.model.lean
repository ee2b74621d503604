/-! ===== the reference: night; a sentence held against a night, what is meant ===== -/
theorem dX13_night_0 : decode cX13_night 0 = .ok (.aload_n 0, 1) := by decide +kernel
theorem dX13_night_1 : decode cX13_night 1 = .ok (.iconst 0, 1) := by decide +kernel
theorem dX13_night_2 : decode cX13_night 2 = .ok (.putfield 148, 3) := by decide +kernel
theorem dX13_night_5 : decode cX13_night 5 = .ok (.aload_n 0, 1) := by decide +kernel
theorem dX13_night_6 : decode cX13_night 6 = .ok (.invokevirtual 232, 3) := by decide +kernel
theorem dX13_night_9 : decode cX13_night 9 = .ok (.iload_n 1, 1) := by decide +kernel
theorem dX13_night_10 : decode cX13_night 10 = .ok (.iconst 0, 1) := by decide +kernel
theorem dX13_night_11 : decode cX13_night 11 = .ok (.bipush 59, 2) := by decide +kernel
theorem dX13_night_13 : decode cX13_night 13 = .ok (.invokestatic 219, 3) := by decide +kernel
theorem dX13_night_16 : decode cX13_night 16 = .ok (.ifCond .eq 12, 3) := by decide +kernel
theorem dX13_night_19 : decode cX13_night 19 = .ok (.iload_n 2, 1) := by decide +kernel
theorem dX13_night_20 : decode cX13_night 20 = .ok (.iconst 0, 1) := by decide +kernel
theorem dX13_night_21 : decode cX13_night 21 = .ok (.iconst 3, 1) := by decide +kernel
theorem dX13_night_22 : decode cX13_night 22 = .ok (.invokestatic 219, 3) := by decide +kernel
theorem dX13_night_25 : decode cX13_night 25 = .ok (.ifCond .ne 5, 3) := by decide +kernel
theorem dX13_night_28 : decode cX13_night 28 = .ok (.iconst (-1), 1) := by decide +kernel
theorem dX13_night_29 : decode cX13_night 29 = .ok (.ireturn, 1) := by decide +kernel
theorem dX13_night_30 : decode cX13_night 30 = .ok (.aload_n 0, 1) := by decide +kernel
theorem dX13_night_31 : decode cX13_night 31 = .ok (.invokevirtual 500, 3) := by decide +kernel
theorem dX13_night_34 : decode cX13_night 34 = .ok (.aload_n 0, 1) := by decide +kernel
theorem dX13_night_35 : decode cX13_night 35 = .ok (.getfield 142, 3) := by decide +kernel
theorem dX13_night_38 : decode cX13_night 38 = .ok (.iconst 4, 1) := by decide +kernel
theorem dX13_night_39 : decode cX13_night 39 = .ok (.iload_n 1, 1) := by decide +kernel
theorem dX13_night_40 : decode cX13_night 40 = .ok (.imul, 1) := by decide +kernel
theorem dX13_night_41 : decode cX13_night 41 = .ok (.iload_n 2, 1) := by decide +kernel
theorem dX13_night_42 : decode cX13_night 42 = .ok (.iadd, 1) := by decide +kernel
theorem dX13_night_43 : decode cX13_night 43 = .ok (.iaload, 1) := by decide +kernel
theorem dX13_night_44 : decode cX13_night 44 = .ok (.ireturn, 1) := by decide +kernel
theorem lt_59 {x : Int32} (h : ¬ x < 0 ∧ x < nI 59 + 1) : ¬ nI 59 < x := by
  obtain ⟨k, hk, rfl⟩ := zi_nn h.1
  have h2 := h.2
  rw [show nI 59 + 1 = nI 60 from rfl, nI_lt' hk (by omega)] at h2
  rw [nI_lt' (by omega) hk]
  omega
theorem mg_n {g g2 : Nat → Int32} {s : Nat → Nat} (h : mFr [22] (mg (upd g 0 (nI 0)) s) g2) : mFr [0, 22, 33, 34, 35, 36, 37, 38, 39, 40, 41, 42, 70] g g2 := mFr_t (mFr_u mFr_r (by decide) : mFr [0] g (upd g 0 (nI 0))) (mg_tl h) (by decide) (by decide)
theorem nAt_q {o1 o2 o3 o4 : Nat → Int32} {m : Nat} {q : Int32} (h : ¬ (¬ q < nI 0 ∧ ¬ nI 3 < q)) : nAt o1 o2 o3 o4 m q = -1 := by
  unfold nAt
  rw [if_neg (fun z => h (by rw [z]; exact ⟨by decide, by decide⟩)), if_neg (fun z => h (by rw [z]; exact ⟨by decide, by decide⟩)), if_neg (fun z => h (by rw [z]; exact ⟨by decide, by decide⟩)), if_neg (fun z => h (by rw [z]; exact ⟨by decide, by decide⟩))]
theorem nAt_k {f o1 o2 o3 o4 : Nat → Int32} {m k : Nat} (h : f (4 * m) = o1 m ∧ f (4 * m + 1) = o2 m ∧ f (4 * m + 2) = o3 m ∧ f (4 * m + 3) = o4 m) (hk : k ≤ 3) : f (4 * m + k) = nAt o1 o2 o3 o4 m (nI k) := by
  have : k = 0 ∨ k = 1 ∨ k = 2 ∨ k = 3 := by omega
  rcases this with rfl | rfl | rfl | rfl
  · exact h.1
  · exact h.2.1
  · exact h.2.2.1
  · exact h.2.2.2
set_option maxRecDepth 100000 in
theorem s_mNight (l : Launch) (dd : Nat) (mo : Nat) (e : Nat → Nat) (g : Nat → Int32) (w : Int64) (nw : Nat → Int32) (D : zYd) (P : zPl) (M : zRs) (fu bu we he nt : Nat → Int32) (ro ru : zRs) (F0 : zF1) (x q : Int32) (hd : 8 ≤ dd) (hb : g 22 = 0 ∨ g 22 = 1) (hR : yR D (mLay g nw)) (hD : yI D) (hyB : yB D) (hP : mPl P (mLay g nw)) (hF : pFit D P) (hA : pAi D P) (hS : pSo P) (hW : cW ro) (hI : rI ru) (hF0 : zAgF (D.1 14 * D.1 15) (sc0 D) F0.1) (hL0 : F0.2.1 = 0) : zSp l mX13_night dd 0 0 [.ref mo, .int x, .int q] [(mo, .inr (11, fMo e (mg g M.1) w)), ((e 14), .inl (0, 800, .inl nw)), ((e 24), .inl (0, 12, .inl (nF (M.2 24)))), ((e 25), .inl (0, 12, .inl (nF (M.2 25)))), ((e 26), .inl (0, 12, .inl (nF (M.2 26)))), ((e 27), .inl (0, 12, .inl (nF (M.2 27)))), ((e 28), .inl (0, 360, .inl (nF (M.2 28)))), ((e 29), .inl (0, 12, .inl (nF (M.2 29)))), ((e 30), .inl (0, 12, .inl (nF (M.2 30)))), ((e 31), .inl (0, 30, .inl (nF (M.2 31)))), ((e 32), .inl (0, 12, .inl (nF (M.2 32)))), ((e 64), .inl (0, 64, .inl fu)), ((e 65), .inl (0, 64, .inl bu)), ((e 66), .inl (0, 64, .inl we)), ((e 67), .inl (0, 64, .inl he)), ((e 85), .inl (0, 240, .inl nt))] (fun r K' => (¬ (¬ x < 0 ∧ x < nI 60) ∧ r = some (.int (-1)) ∧ ∃ (g' : Nat → Int32) (M' : zRs) (S' : zFs) (he' nt' : Nat → Int32), mFr [0, 22, 33, 34, 35, 36, 37, 38, 39, 40, 41, 42, 70] g g' ∧ g' 0 = nI 0 ∧ g' 22 = 1 ∧ K' = [(mo, .inr (11, fMo e (mg g' M'.1) w)), ((e 14), .inl (0, 800, .inl (mLay g nw))), ((e 24), .inl (0, 12, .inl (nF (M'.2 24)))), ((e 25), .inl (0, 12, .inl (nF (M'.2 25)))), ((e 26), .inl (0, 12, .inl (nF (M'.2 26)))), ((e 27), .inl (0, 12, .inl (nF (M'.2 27)))), ((e 28), .inl (0, 360, .inl (nF (M'.2 28)))), ((e 29), .inl (0, 12, .inl (nF (M'.2 29)))), ((e 30), .inl (0, 12, .inl (nF (M'.2 30)))), ((e 31), .inl (0, 30, .inl (nF (M'.2 31)))), ((e 32), .inl (0, 12, .inl (nF (M'.2 32)))), ((e 64), .inl (0, 64, .inl (S'.1))), ((e 65), .inl (0, 64, .inl (S'.2.2))), ((e 66), .inl (0, 64, .inl (S'.2.1))), ((e 67), .inl (0, 64, .inl (he'))), ((e 85), .inl (0, 240, .inl (nt')))]) ∨ (∃ mi, mi < 60 ∧ x = nI mi ∧ r = some (.int (nAt (nO1 D.1 D.2.2.2.1 D.2.2.2.2.1 D.2.2.2.2.2.1 (D.1 14) (D.1 15) D.2.1 P.1 P.2.1 P.2.2.1 P.2.2.2.1 P.2.2.2.2 (0, 1, D.1 9, ro, ru, F0)) (nO2 D.1 D.2.2.2.1 D.2.2.2.2.1 D.2.2.2.2.2.1 (D.1 14) (D.1 15) D.2.1 P.1 P.2.1 P.2.2.1 P.2.2.2.1 P.2.2.2.2 (0, 1, D.1 9, ro, ru, F0)) (nO3 D.1 D.2.2.2.1 D.2.2.2.2.1 D.2.2.2.2.2.1 (D.1 14) (D.1 15) D.2.1 P.1 P.2.1 P.2.2.1 P.2.2.2.1 P.2.2.2.2 (0, 1, D.1 9, ro, ru, F0)) (nO4 D.1 D.2.2.2.1 D.2.2.2.2.1 D.2.2.2.2.2.1 (D.1 14) (D.1 15) D.2.1 P.1 P.2.1 P.2.2.1 P.2.2.2.1 P.2.2.2.2 (0, 1, D.1 9, ro, ru, F0)) mi q)) ∧ ∃ (g' : Nat → Int32) (M' : zRs) (S' : zFs) (he' nt' : Nat → Int32), mFr [0, 22, 33, 34, 35, 36, 37, 38, 39, 40, 41, 42, 70] g g' ∧ g' 0 = nI 0 ∧ g' 22 = 1 ∧ K' = [(mo, .inr (11, fMo e (mg g' M'.1) w)), ((e 14), .inl (0, 800, .inl (mLay g nw))), ((e 24), .inl (0, 12, .inl (nF (M'.2 24)))), ((e 25), .inl (0, 12, .inl (nF (M'.2 25)))), ((e 26), .inl (0, 12, .inl (nF (M'.2 26)))), ((e 27), .inl (0, 12, .inl (nF (M'.2 27)))), ((e 28), .inl (0, 360, .inl (nF (M'.2 28)))), ((e 29), .inl (0, 12, .inl (nF (M'.2 29)))), ((e 30), .inl (0, 12, .inl (nF (M'.2 30)))), ((e 31), .inl (0, 30, .inl (nF (M'.2 31)))), ((e 32), .inl (0, 12, .inl (nF (M'.2 32)))), ((e 64), .inl (0, 64, .inl (S'.1))), ((e 65), .inl (0, 64, .inl (S'.2.2))), ((e 66), .inl (0, 64, .inl (S'.2.1))), ((e 67), .inl (0, 64, .inl (he'))), ((e 85), .inl (0, 240, .inl (nt')))])) := by
  refine zSp.of (by decide) (Nat.le_of_ble_eq_true rfl) (fun h0 => ?_)
  show zS _ 0 0 0 [(0, .ref mo), (1, .int x), (2, .int q)] [] [(mo, .inr (11, fMo e (mg g M.1) w)), ((e 14), .inl (0, 800, .inl nw)), ((e 24), .inl (0, 12, .inl (nF (M.2 24)))), ((e 25), .inl (0, 12, .inl (nF (M.2 25)))), ((e 26), .inl (0, 12, .inl (nF (M.2 26)))), ((e 27), .inl (0, 12, .inl (nF (M.2 27)))), ((e 28), .inl (0, 360, .inl (nF (M.2 28)))), ((e 29), .inl (0, 12, .inl (nF (M.2 29)))), ((e 30), .inl (0, 12, .inl (nF (M.2 30)))), ((e 31), .inl (0, 30, .inl (nF (M.2 31)))), ((e 32), .inl (0, 12, .inl (nF (M.2 32)))), ((e 64), .inl (0, 64, .inl fu)), ((e 65), .inl (0, 64, .inl bu)), ((e 66), .inl (0, 64, .inl we)), ((e 67), .inl (0, 64, .inl he)), ((e 85), .inl (0, 240, .inl nt))]
  have hC := hD.2.1
  have hRo := hD.2.2.1
  refine zs_aload_n dX13_night_0 rfl rfl ?_
  refine zs_iconst (v := nI 0) dX13_night_1 (by decide) ?_
  refine zs_put 0 dX13_night_2 zf_RX13_148 rfl (Nat.le_of_ble_eq_true rfl) (zPv_i _) ?_
  show zS _ _ _ _ _ _ [(mo, .inr (11, fMo e (mg (upd g 0 (nI 0)) M.1) w)), ((e 14), .inl (0, 800, .inl nw)), ((e 24), .inl (0, 12, .inl (nF (M.2 24)))), ((e 25), .inl (0, 12, .inl (nF (M.2 25)))), ((e 26), .inl (0, 12, .inl (nF (M.2 26)))), ((e 27), .inl (0, 12, .inl (nF (M.2 27)))), ((e 28), .inl (0, 360, .inl (nF (M.2 28)))), ((e 29), .inl (0, 12, .inl (nF (M.2 29)))), ((e 30), .inl (0, 12, .inl (nF (M.2 30)))), ((e 31), .inl (0, 30, .inl (nF (M.2 31)))), ((e 32), .inl (0, 12, .inl (nF (M.2 32)))), ((e 64), .inl (0, 64, .inl fu)), ((e 65), .inl (0, 64, .inl bu)), ((e 66), .inl (0, 64, .inl we)), ((e 67), .inl (0, 64, .inl he)), ((e 85), .inl (0, 240, .inl nt))]
  refine zs_aload_n dX13_night_5 rfl rfl ?_
  refine zs_callV (M := mX13_lay) (As := []) (st := []) (Kc := [(mo, .inr (11, fMo e (mg (upd g 0 (nI 0)) M.1) w)), ((e 14), .inl (0, 800, .inl nw))]) (Kr := [((e 24), .inl (0, 12, .inl (nF (M.2 24)))), ((e 25), .inl (0, 12, .inl (nF (M.2 25)))), ((e 26), .inl (0, 12, .inl (nF (M.2 26)))), ((e 27), .inl (0, 12, .inl (nF (M.2 27)))), ((e 28), .inl (0, 360, .inl (nF (M.2 28)))), ((e 29), .inl (0, 12, .inl (nF (M.2 29)))), ((e 30), .inl (0, 12, .inl (nF (M.2 30)))), ((e 31), .inl (0, 30, .inl (nF (M.2 31)))), ((e 32), .inl (0, 12, .inl (nF (M.2 32)))), ((e 64), .inl (0, 64, .inl fu)), ((e 65), .inl (0, 64, .inl bu)), ((e 66), .inl (0, 64, .inl we)), ((e 67), .inl (0, 64, .inl he)), ((e 85), .inl (0, 240, .inl nt))]) [0, 1] [2, 3, 4, 5, 6, 7, 8, 9, 10, 11, 12, 13, 14, 15] 0 dX13_night_6 zl_RX13_232 kX13_lay rfl rfl rfl rfl rfl (by decide) rfl rfl (show dd - 1 + 1 ≤ dd by omega) (Nat.zero_le _) (Nat.zero_le _) (Nat.le_of_ble_eq_true rfl) (s_mLay l (dd - 1) mo e (mg (upd g 0 (nI 0)) M.1) w nw (by omega) hb) (fun r K1 hr => ?_)
  obtain ⟨rfl, g2, hfr2, h22, rfl⟩ := hr
  refine zs_K (K' := [(mo, .inr (11, fMo e g2 w)), ((e 14), .inl (0, 800, .inl (mLay g nw))), ((e 24), .inl (0, 12, .inl (nF (M.2 24)))), ((e 25), .inl (0, 12, .inl (nF (M.2 25)))), ((e 26), .inl (0, 12, .inl (nF (M.2 26)))), ((e 27), .inl (0, 12, .inl (nF (M.2 27)))), ((e 28), .inl (0, 360, .inl (nF (M.2 28)))), ((e 29), .inl (0, 12, .inl (nF (M.2 29)))), ((e 30), .inl (0, 12, .inl (nF (M.2 30)))), ((e 31), .inl (0, 30, .inl (nF (M.2 31)))), ((e 32), .inl (0, 12, .inl (nF (M.2 32)))), ((e 64), .inl (0, 64, .inl fu)), ((e 65), .inl (0, 64, .inl bu)), ((e 66), .inl (0, 64, .inl we)), ((e 67), .inl (0, 64, .inl he)), ((e 85), .inl (0, 240, .inl nt))]) [14, 15, 0, 1, 2, 3, 4, 5, 6, 7, 8, 9, 10, 11, 12, 13] rfl (by decide) ?_
  rw [mg_22 hfr2]
  show zS _ _ _ _ _ _ [(mo, .inr (11, fMo e (mg g2 M.1) w)), ((e 14), .inl (0, 800, .inl (mLay g nw))), ((e 24), .inl (0, 12, .inl (nF (M.2 24)))), ((e 25), .inl (0, 12, .inl (nF (M.2 25)))), ((e 26), .inl (0, 12, .inl (nF (M.2 26)))), ((e 27), .inl (0, 12, .inl (nF (M.2 27)))), ((e 28), .inl (0, 360, .inl (nF (M.2 28)))), ((e 29), .inl (0, 12, .inl (nF (M.2 29)))), ((e 30), .inl (0, 12, .inl (nF (M.2 30)))), ((e 31), .inl (0, 30, .inl (nF (M.2 31)))), ((e 32), .inl (0, 12, .inl (nF (M.2 32)))), ((e 64), .inl (0, 64, .inl fu)), ((e 65), .inl (0, 64, .inl bu)), ((e 66), .inl (0, 64, .inl we)), ((e 67), .inl (0, 64, .inl he)), ((e 85), .inl (0, 240, .inl nt))]
  refine zs_iload_n dX13_night_9 rfl ?_
  refine zs_iconst (v := nI 0) dX13_night_10 (by decide) ?_
  refine zs_bipush (v := nI 59) dX13_night_11 (by decide) ?_
  refine zs_callS (M := mX13_isIn) (As := [.int x, .int (nI 0), .int (nI 59)]) (st := []) (Kc := []) (Kr := [(mo, .inr (11, fMo e (mg g2 M.1) w)), ((e 14), .inl (0, 800, .inl (mLay g nw))), ((e 24), .inl (0, 12, .inl (nF (M.2 24)))), ((e 25), .inl (0, 12, .inl (nF (M.2 25)))), ((e 26), .inl (0, 12, .inl (nF (M.2 26)))), ((e 27), .inl (0, 12, .inl (nF (M.2 27)))), ((e 28), .inl (0, 360, .inl (nF (M.2 28)))), ((e 29), .inl (0, 12, .inl (nF (M.2 29)))), ((e 30), .inl (0, 12, .inl (nF (M.2 30)))), ((e 31), .inl (0, 30, .inl (nF (M.2 31)))), ((e 32), .inl (0, 12, .inl (nF (M.2 32)))), ((e 64), .inl (0, 64, .inl fu)), ((e 65), .inl (0, 64, .inl bu)), ((e 66), .inl (0, 64, .inl we)), ((e 67), .inl (0, 64, .inl he)), ((e 85), .inl (0, 240, .inl nt))]) [] [0, 1, 2, 3, 4, 5, 6, 7, 8, 9, 10, 11, 12, 13, 14, 15] dX13_night_13 zl_RX13_219 kX13_isIn rfl rfl rfl rfl rfl (by decide) (show dd - 1 + 1 ≤ dd by omega) (Nat.zero_le _) (Nat.zero_le _) (Nat.le_of_ble_eq_true rfl) (s_mIsIn l (dd - 1) x (nI 0) (nI 59)) (fun r K1 hr => ?_)
  obtain ⟨rfl, rfl⟩ := hr
  refine zs_K (K' := [(mo, .inr (11, fMo e (mg g2 M.1) w)), ((e 14), .inl (0, 800, .inl (mLay g nw))), ((e 24), .inl (0, 12, .inl (nF (M.2 24)))), ((e 25), .inl (0, 12, .inl (nF (M.2 25)))), ((e 26), .inl (0, 12, .inl (nF (M.2 26)))), ((e 27), .inl (0, 12, .inl (nF (M.2 27)))), ((e 28), .inl (0, 360, .inl (nF (M.2 28)))), ((e 29), .inl (0, 12, .inl (nF (M.2 29)))), ((e 30), .inl (0, 12, .inl (nF (M.2 30)))), ((e 31), .inl (0, 30, .inl (nF (M.2 31)))), ((e 32), .inl (0, 12, .inl (nF (M.2 32)))), ((e 64), .inl (0, 64, .inl fu)), ((e 65), .inl (0, 64, .inl bu)), ((e 66), .inl (0, 64, .inl we)), ((e 67), .inl (0, 64, .inl he)), ((e 85), .inl (0, 240, .inl nt))]) [0, 1, 2, 3, 4, 5, 6, 7, 8, 9, 10, 11, 12, 13, 14, 15] rfl (by decide) ?_
  refine zs_if_eq (tgt := 28) dX13_night_16 (by decide) (fun c_1 => ?_) (fun c_1 => ?_)
  · have hxn : ¬ (¬ x < 0 ∧ x < nI 60) := fun z => absurd ⟨z.1, (by rw [show nI 60 = nI 59 + 1 from rfl] at z; exact lt_59 z)⟩ (of_decide_eq_false (bI_f c_1))
    refine zs_iconst (v := (-1)) dX13_night_28 (by decide) ?_
    exact zs_iret dX13_night_29 rfl (Or.inl ⟨hxn, rfl, g2, M, (fu, we, bu), he, nt, mg_n hfr2, (by have h := hfr2 0 (by decide); exact h), h22, rfl⟩)
  · have hx1 := of_decide_eq_true (bI_t c_1)
    refine zs_iload_n dX13_night_19 rfl ?_
    refine zs_iconst (v := nI 0) dX13_night_20 (by decide) ?_
    refine zs_iconst (v := nI 3) dX13_night_21 (by decide) ?_
    refine zs_callS (M := mX13_isIn) (As := [.int q, .int (nI 0), .int (nI 3)]) (st := []) (Kc := []) (Kr := [(mo, .inr (11, fMo e (mg g2 M.1) w)), ((e 14), .inl (0, 800, .inl (mLay g nw))), ((e 24), .inl (0, 12, .inl (nF (M.2 24)))), ((e 25), .inl (0, 12, .inl (nF (M.2 25)))), ((e 26), .inl (0, 12, .inl (nF (M.2 26)))), ((e 27), .inl (0, 12, .inl (nF (M.2 27)))), ((e 28), .inl (0, 360, .inl (nF (M.2 28)))), ((e 29), .inl (0, 12, .inl (nF (M.2 29)))), ((e 30), .inl (0, 12, .inl (nF (M.2 30)))), ((e 31), .inl (0, 30, .inl (nF (M.2 31)))), ((e 32), .inl (0, 12, .inl (nF (M.2 32)))), ((e 64), .inl (0, 64, .inl fu)), ((e 65), .inl (0, 64, .inl bu)), ((e 66), .inl (0, 64, .inl we)), ((e 67), .inl (0, 64, .inl he)), ((e 85), .inl (0, 240, .inl nt))]) [] [0, 1, 2, 3, 4, 5, 6, 7, 8, 9, 10, 11, 12, 13, 14, 15] dX13_night_22 zl_RX13_219 kX13_isIn rfl rfl rfl rfl rfl (by decide) (show dd - 1 + 1 ≤ dd by omega) (Nat.zero_le _) (Nat.zero_le _) (Nat.le_of_ble_eq_true rfl) (s_mIsIn l (dd - 1) q (nI 0) (nI 3)) (fun r K1 hr => ?_)
    obtain ⟨rfl, rfl⟩ := hr
    refine zs_K (K' := [(mo, .inr (11, fMo e (mg g2 M.1) w)), ((e 14), .inl (0, 800, .inl (mLay g nw))), ((e 24), .inl (0, 12, .inl (nF (M.2 24)))), ((e 25), .inl (0, 12, .inl (nF (M.2 25)))), ((e 26), .inl (0, 12, .inl (nF (M.2 26)))), ((e 27), .inl (0, 12, .inl (nF (M.2 27)))), ((e 28), .inl (0, 360, .inl (nF (M.2 28)))), ((e 29), .inl (0, 12, .inl (nF (M.2 29)))), ((e 30), .inl (0, 12, .inl (nF (M.2 30)))), ((e 31), .inl (0, 30, .inl (nF (M.2 31)))), ((e 32), .inl (0, 12, .inl (nF (M.2 32)))), ((e 64), .inl (0, 64, .inl fu)), ((e 65), .inl (0, 64, .inl bu)), ((e 66), .inl (0, 64, .inl we)), ((e 67), .inl (0, 64, .inl he)), ((e 85), .inl (0, 240, .inl nt))]) [0, 1, 2, 3, 4, 5, 6, 7, 8, 9, 10, 11, 12, 13, 14, 15] rfl (by decide) ?_
    refine zs_if_ne (tgt := 30) dX13_night_25 (by decide) (fun c_2 => ?_) (fun c_2 => ?_)
    · have hq1 := of_decide_eq_true (bI_t c_2)
      obtain ⟨mi, hmi, rfl⟩ := zi_nn (x := x) hx1.1
      have hm60 : mi < 60 := by have h := hx1.2; rw [nI_lt' (by omega) (by omega)] at h; omega
      obtain ⟨qk, hqk, rfl⟩ := zi_nn (x := q) hq1.1
      have hq3 : qk ≤ 3 := by have h := hq1.2; rw [nI_lt' (by omega) (by omega)] at h; omega
      refine zs_aload_n dX13_night_30 rfl rfl ?_
      refine zs_callV (M := mX13_spend) (As := []) (st := []) (Kc := [(mo, .inr (11, fMo e (mg g2 M.1) w)), ((e 14), .inl (0, 800, .inl (mLay g nw))), ((e 24), .inl (0, 12, .inl (nF (M.2 24)))), ((e 25), .inl (0, 12, .inl (nF (M.2 25)))), ((e 26), .inl (0, 12, .inl (nF (M.2 26)))), ((e 27), .inl (0, 12, .inl (nF (M.2 27)))), ((e 28), .inl (0, 360, .inl (nF (M.2 28)))), ((e 29), .inl (0, 12, .inl (nF (M.2 29)))), ((e 30), .inl (0, 12, .inl (nF (M.2 30)))), ((e 31), .inl (0, 30, .inl (nF (M.2 31)))), ((e 32), .inl (0, 12, .inl (nF (M.2 32)))), ((e 64), .inl (0, 64, .inl fu)), ((e 65), .inl (0, 64, .inl bu)), ((e 66), .inl (0, 64, .inl we)), ((e 67), .inl (0, 64, .inl he)), ((e 85), .inl (0, 240, .inl nt))]) (Kr := []) [0, 1, 2, 3, 4, 5, 6, 7, 8, 9, 10, 11, 12, 13, 14, 15] [] 0 dX13_night_31 zl_RX13_500 kX13_spend rfl rfl rfl rfl rfl (by decide) rfl rfl (show dd - 1 + 1 ≤ dd by omega) (Nat.zero_le _) (Nat.zero_le _) (Nat.le_of_ble_eq_true rfl) (s_mSpend l (dd - 1) mo e g2 w (mLay g nw) D P M fu bu we he nt ro ru F0 (by omega) hR hC hRo hD hP hF hA hS hyB h22 hW hI hF0 hL0) (fun r K1 hr => ?_)
      obtain ⟨rfl, g3, M', S', he', nt', hfr3, h322, hO, rfl⟩ := hr
      refine zs_K (K' := [(mo, .inr (11, fMo e (mg g3 M'.1) w)), ((e 14), .inl (0, 800, .inl (mLay g nw))), ((e 24), .inl (0, 12, .inl (nF (M'.2 24)))), ((e 25), .inl (0, 12, .inl (nF (M'.2 25)))), ((e 26), .inl (0, 12, .inl (nF (M'.2 26)))), ((e 27), .inl (0, 12, .inl (nF (M'.2 27)))), ((e 28), .inl (0, 360, .inl (nF (M'.2 28)))), ((e 29), .inl (0, 12, .inl (nF (M'.2 29)))), ((e 30), .inl (0, 12, .inl (nF (M'.2 30)))), ((e 31), .inl (0, 30, .inl (nF (M'.2 31)))), ((e 32), .inl (0, 12, .inl (nF (M'.2 32)))), ((e 64), .inl (0, 64, .inl (S'.1))), ((e 65), .inl (0, 64, .inl (S'.2.2))), ((e 66), .inl (0, 64, .inl (S'.2.1))), ((e 67), .inl (0, 64, .inl (he'))), ((e 85), .inl (0, 240, .inl (nt')))]) [0, 1, 2, 3, 4, 5, 6, 7, 8, 9, 10, 11, 12, 13, 14, 15] rfl (by decide) ?_
      refine zs_aload_n dX13_night_34 rfl rfl ?_
      refine zs_get 0 dX13_night_35 zf_RX13_142 rfl (v := .ref (e 85)) rfl ?_
      refine zs_iconst (v := nI 4) dX13_night_38 (by decide) ?_
      refine zs_iload_n dX13_night_39 rfl ?_
      refine zs_imul dX13_night_40 ?_
      refine zs_as (y := nI (4 * mi)) (nI_mul _ _) ?_
      refine zs_iload_n dX13_night_41 rfl ?_
      refine zs_iadd dX13_night_42 ?_
      refine zs_as (y := nI ((4 * mi) + qk)) (nI_add _ _) ?_
      refine zs_iald 15 dX13_night_43 rfl (vp_in_nI (by omega) (by omega)) ?_
      refine zs_as (y := nt' ((4 * mi) + qk)) (by rw [nI_c (n := (4 * mi) + qk) (by omega)]) ?_
      exact zs_iret dX13_night_44 rfl (Or.inr ⟨mi, hm60, rfl, congrArg (fun v => some (Value.int v)) (nAt_k (hO mi hm60) hq3), g3, M', S', he', nt', mFr_t (mg_n hfr2) hfr3 (by decide) (by decide), (hfr3 0 (by decide)).trans (by have h := hfr2 0 (by decide); exact h), h322, rfl⟩)
    · have hqn := of_decide_eq_false (bI_f c_2)
      refine zs_iconst (v := (-1)) dX13_night_28 (by decide) ?_
      obtain ⟨mi, hmi, rfl⟩ := zi_nn (x := x) hx1.1
      have hm60 : mi < 60 := by have h := hx1.2; rw [nI_lt' (by omega) (by omega)] at h; omega
      exact zs_iret dX13_night_29 rfl (Or.inr ⟨mi, hm60, rfl, congrArg (fun v => some (Value.int v)) (nAt_q hqn).symm, g2, M, (fu, we, bu), he, nt, mg_n hfr2, (by have h := hfr2 0 (by decide); exact h), h22, rfl⟩)
/-- the value of a sentence's place, by what is laid down of it -/
def sEv (so : Nat → Bool) (nd : Nat → Int32) : Nat → Nat → Bool
  | 0, _ => false
  | q + 1, k => if nd (4 * k) = nI 1 then !(sEv so nd q (nd (4 * k + 1)).toNatClampNeg) else if nd (4 * k) = nI 2 then (sEv so nd q (nd (4 * k + 1)).toNatClampNeg && sEv so nd q (nd (4 * k + 2)).toNatClampNeg) else if nd (4 * k) = nI 3 then (sEv so nd q (nd (4 * k + 1)).toNatClampNeg || sEv so nd q (nd (4 * k + 2)).toNatClampNeg) else so k
/-- c steps from place a on -/
def vFr (so : Nat → Bool) (st : Nat → Nat) (a : Nat) : Nat → Nat × (Nat → Nat) → Nat × (Nat → Nat)
  | 0, v => v
  | c + 1, v => vSt so st (a + c) (vFr so st a c v)
section
variable {so : Nat → Bool} {st : Nat → Nat}
theorem vFr_R (v : Nat × (Nat → Nat)) : ∀ n, vRn so st v n = vFr so st 0 n v
  | 0 => rfl
  | n + 1 => by rw [vRn, vFr, vFr_R v n, Nat.zero_add]
theorem vFr_t (a b : Nat) (v : Nat × (Nat → Nat)) : ∀ c, vFr so st a (b + c) v = vFr so st (a + b) c (vFr so st a b v)
  | 0 => rfl
  | c + 1 => by rw [← Nat.add_assoc, vFr, vFr, vFr_t a b v c, Nat.add_assoc]
/-- a value pushed on v -/
def vPu (v v' : Nat × (Nat → Nat)) (b : Bool) : Prop := v'.1 = v.1 + 1 ∧ v'.2 v.1 = bN b ∧ ∀ j, j < v.1 → v'.2 j = v.2 j
theorem vPu_l {v : Nat × (Nat → Nat)} {i : Nat} (h6 : ¬ st i = 6) (h7 : ¬ st i = 7) (h8 : ¬ st i = 8) (h : v.1 < 20) : vPu v (vSt so st i v) (so i) := by
  unfold vSt
  rw [if_neg h6, if_neg h7, if_neg h8, if_pos h]
  exact ⟨rfl, un_s _ _ _, fun j hj => un_n (by omega)⟩
theorem vPu_n {v v' : Nat × (Nat → Nat)} {i : Nat} {b : Bool} (h6 : st i = 6) (h : vPu v v' b) : vPu v (vSt so st i v') (!b) := by
  obtain ⟨h1, h2, h3⟩ := h
  unfold vSt
  rw [if_pos h6, if_pos (by omega)]
  refine ⟨h1, ?_, fun j hj => (un_n (by omega)).trans (h3 j hj)⟩
  show un v'.2 (v'.1 - 1) _ v.1 = bN (!b)
  rw [show v'.1 - 1 = v.1 by omega, un_s, h2]
  cases b <;> rfl
theorem vPu_2 {v v' w : Nat × (Nat → Nat)} {i : Nat} {b c : Bool} (h : st i = 7 ∨ st i = 8) (h1 : vPu v v' b) (h2 : vPu v' w c) : vPu v (vSt so st i w) (if st i = 7 then b && c else b || c) := by
  obtain ⟨a1, a2, a3⟩ := h1
  obtain ⟨b1, b2, b3⟩ := h2
  have e1 : w.2 (w.1 - 1) = bN c := by rw [show w.1 - 1 = v'.1 by omega]; exact b2
  have e2 : w.2 (w.1 - 1 - 1) = bN b := by rw [show w.1 - 1 - 1 = v.1 by omega, b3 _ (by omega)]; exact a2
  rcases h with q | q
  · rw [show (if st i = 7 then b && c else b || c) = (b && c) from if_pos q]
    unfold vSt
    rw [if_neg (by omega), if_pos q, if_pos (by omega)]
    refine ⟨by show w.1 - 1 = v.1 + 1; omega, ?_, fun j hj => (un_n (by omega)).trans ((b3 j (by omega)).trans (a3 j hj))⟩
    show un w.2 (w.1 - 1 - 1) _ v.1 = bN (b && c)
    rw [e1, e2, show w.1 - 1 - 1 = v.1 by omega, un_s]
    cases b <;> cases c <;> rfl
  · rw [show (if st i = 7 then b && c else b || c) = (b || c) from if_neg (by omega)]
    unfold vSt
    rw [if_neg (by omega), if_neg (by omega), if_pos q, if_pos (by omega)]
    refine ⟨by show w.1 - 1 = v.1 + 1; omega, ?_, fun j hj => (un_n (by omega)).trans ((b3 j (by omega)).trans (a3 j hj))⟩
    show un w.2 (w.1 - 1 - 1) _ v.1 = bN (b || c)
    rw [e1, e2, show w.1 - 1 - 1 = v.1 by omega, un_s]
    cases b <;> cases c <;> rfl
theorem sEv_V {nd : Nat → Int32} {S : zSe} : ∀ (q k a : Nat), k < 40 → sTr nd S q k a → a ≤ k ∧ ∀ v : Nat × (Nat → Nat), v.1 + (k + 2 - a) / 2 ≤ 20 → vPu v (vFr so S.2.2.1 a (k + 1 - a) v) (sEv so nd q k)
  | 0, _, _, _, h => h.elim
  | q + 1, k, a, hk, h => by
    rcases h with ⟨e, h4, hs⟩ | ⟨e, h5, hs1, hs5, -⟩ | ⟨x, e, h1, hx, hs, ht⟩ | ⟨x, y, e, ha, hxy, hw, hx, hy, ht1, ht2⟩
    · subst e
      refine ⟨Nat.le_refl _, fun v hv => ?_⟩
      have e2 : sEv so nd (q + 1) k = so k := by rw [sEv, h4, if_neg (by decide), if_neg (by decide), if_neg (by decide)]
      rw [e2, show k + 1 - k = 0 + 1 by omega, vFr]
      exact vPu_l (show ¬ S.2.2.1 k = 6 by omega) (show ¬ S.2.2.1 k = 7 by omega) (show ¬ S.2.2.1 k = 8 by omega) (show v.1 < 20 by omega)
    · subst e
      refine ⟨Nat.le_refl _, fun v hv => ?_⟩
      have e2 : sEv so nd (q + 1) k = so k := by rw [sEv, h5, if_neg (by decide), if_neg (by decide), if_neg (by decide)]
      rw [e2, show k + 1 - k = 0 + 1 by omega, vFr]
      exact vPu_l (show ¬ S.2.2.1 k = 6 by omega) (show ¬ S.2.2.1 k = 7 by omega) (show ¬ S.2.2.1 k = 8 by omega) (show v.1 < 20 by omega)
    · obtain ⟨i1, i2⟩ := sEv_V q x a (by omega) ht
      refine ⟨by omega, fun v hv => ?_⟩
      have e2 : sEv so nd (q + 1) k = !(sEv so nd q x) := by rw [sEv, h1, if_pos rfl, hx, nI_c (by omega)]
      rw [e2, show k + 1 - a = (x + 1 - a) + 1 by omega, vFr, show a + (x + 1 - a) = k by omega]
      exact vPu_n hs (i2 v (by omega))
    · obtain ⟨i1, i2⟩ := sEv_V q x a (by omega) ht1
      obtain ⟨j1, j2⟩ := sEv_V q y (x + 1) (by omega) ht2
      refine ⟨by omega, fun v hv => ?_⟩
      have p1 := i2 v (by omega)
      have p2 := j2 (vFr so S.2.2.1 a (x + 1 - a) v) (by rw [p1.1]; omega)
      have p3 := vPu_2 (so := so) (st := S.2.2.1) (i := k) (by omega) p1 p2
      have e3 : vFr so S.2.2.1 a (k + 1 - a) v = vSt so S.2.2.1 k (vFr so S.2.2.1 (x + 1) (y + 1 - (x + 1)) (vFr so S.2.2.1 a (x + 1 - a) v)) := by
        rw [show k + 1 - a = ((x + 1 - a) + (y + 1 - (x + 1))) + 1 by omega, vFr, vFr_t, show a + (x + 1 - a) = x + 1 by omega, show a + ((x + 1 - a) + (y + 1 - (x + 1))) = k by omega]
      rw [e3]
      rcases hw with ⟨s7, n2⟩ | ⟨s8, n3⟩
      · rw [if_pos s7] at p3
        have e2 : sEv so nd (q + 1) k = (sEv so nd q x && sEv so nd q y) := by rw [sEv, n2, if_neg (by decide), if_pos rfl, hx, hy, nI_c (by omega), nI_c (by omega)]
        rw [e2]; exact p3
      · rw [if_neg (by omega)] at p3
        have e2 : sEv so nd (q + 1) k = (sEv so nd q x || sEv so nd q y) := by rw [sEv, n3, if_neg (by decide), if_neg (by decide), if_pos rfl, hx, hy, nI_c (by omega), nI_c (by omega)]
        rw [e2]; exact p3
end
theorem hHo_t {o1 o2 o3 o4 : Nat → Int32} {S : zSe} {m : Nat} {nd : Nat → Int32} (h0 : 0 < S.2.1) (h40 : S.2.1 ≤ 40) (h : sT nd S (S.2.1 - 1) 0) : hHo o1 o2 o3 o4 S m = sEv (sSo o1 o2 o3 o4 m S) nd (S.2.1 - 1 + 1) (S.2.1 - 1) := by
  have h1 := (sEv_V (so := sSo o1 o2 o3 o4 m S) (S.2.1 - 1 + 1) (S.2.1 - 1) 0 (by omega) h).2 (0, fun _ => 0) (by show 0 + (S.2.1 - 1 + 2 - 0) / 2 ≤ 20; omega)
  unfold hHo vHo
  rw [vFr_R]
  rw [show S.2.1 - 1 + 1 - 0 = S.2.1 by omega] at h1
  generalize vFr (sSo o1 o2 o3 o4 m S) S.2.2.1 0 S.2.1 (0, fun _ => 0) = w at h1
  generalize sEv (sSo o1 o2 o3 o4 m S) nd (S.2.1 - 1 + 1) (S.2.1 - 1) = b at h1
  obtain ⟨a1, a2, -⟩ := h1
  have a2 : w.2 0 = bN b := a2
  have a1 : w.1 = 1 := a1
  rw [a1, a2]
  cases b <;> rfl
