/-! ===== the class itself: row, rowBy, done, period, running, count; the lists told ===== -/
theorem nCl_f {bt : Nat → Nat} {n M : Nat} (h : ∀ i, i < n → bt i < M) : ∀ i, i < n → nCl bt (fun _ => 0) n i < M := fun i hi => by rw [nCl_s hi]; exact h i hi
theorem dX12_row_0 : decode cX12_row 0 = .ok (.aload_n 0, 1) := by decide +kernel
theorem dX12_row_1 : decode cX12_row 1 = .ok (.iconst 2, 1) := by decide +kernel
theorem dX12_row_2 : decode cX12_row 2 = .ok (.bipush 12, 2) := by decide +kernel
theorem dX12_row_4 : decode cX12_row 4 = .ok (.invokevirtual 193, 3) := by decide +kernel
theorem dX12_row_7 : decode cX12_row 7 = .ok (.astore_n 2, 1) := by decide +kernel
theorem dX12_row_8 : decode cX12_row 8 = .ok (.aload_n 2, 1) := by decide +kernel
theorem dX12_row_9 : decode cX12_row 9 = .ok (.arraylength, 1) := by decide +kernel
theorem dX12_row_10 : decode cX12_row 10 = .ok (.ifCond .eq 10, 3) := by decide +kernel
theorem dX12_row_13 : decode cX12_row 13 = .ok (.iload_n 1, 1) := by decide +kernel
theorem dX12_row_14 : decode cX12_row 14 = .ok (.invokestatic 197, 3) := by decide +kernel
theorem dX12_row_17 : decode cX12_row 17 = .ok (.ifCond .ne 5, 3) := by decide +kernel
theorem dX12_row_20 : decode cX12_row 20 = .ok (.iconst (-1), 1) := by decide +kernel
theorem dX12_row_21 : decode cX12_row 21 = .ok (.ireturn, 1) := by decide +kernel
theorem dX12_row_22 : decode cX12_row 22 = .ok (.aload_n 0, 1) := by decide +kernel
theorem dX12_row_23 : decode cX12_row 23 = .ok (.getfield 41, 3) := by decide +kernel
theorem dX12_row_26 : decode cX12_row 26 = .ok (.aload_n 0, 1) := by decide +kernel
theorem dX12_row_27 : decode cX12_row 27 = .ok (.getfield 23, 3) := by decide +kernel
theorem dX12_row_30 : decode cX12_row 30 = .ok (.getfield 96, 3) := by decide +kernel
theorem dX12_row_33 : decode cX12_row 33 = .ok (.aload_n 2, 1) := by decide +kernel
theorem dX12_row_34 : decode cX12_row 34 = .ok (.iconst 0, 1) := by decide +kernel
theorem dX12_row_35 : decode cX12_row 35 = .ok (.aload_n 2, 1) := by decide +kernel
theorem dX12_row_36 : decode cX12_row 36 = .ok (.arraylength, 1) := by decide +kernel
theorem dX12_row_37 : decode cX12_row 37 = .ok (.aload_n 0, 1) := by decide +kernel
theorem dX12_row_38 : decode cX12_row 38 = .ok (.getfield 23, 3) := by decide +kernel
theorem dX12_row_41 : decode cX12_row 41 = .ok (.getfield 96, 3) := by decide +kernel
theorem dX12_row_44 : decode cX12_row 44 = .ok (.getfield 201, 3) := by decide +kernel
theorem dX12_row_47 : decode cX12_row 47 = .ok (.invokevirtual 204, 3) := by decide +kernel
theorem dX12_row_50 : decode cX12_row 50 = .ok (.aload_n 0, 1) := by decide +kernel
theorem dX12_row_51 : decode cX12_row 51 = .ok (.getfield 41, 3) := by decide +kernel
theorem dX12_row_54 : decode cX12_row 54 = .ok (.iload_n 1, 1) := by decide +kernel
theorem dX12_row_55 : decode cX12_row 55 = .ok (.invokevirtual 208, 3) := by decide +kernel
theorem dX12_row_58 : decode cX12_row 58 = .ok (.aload_n 0, 1) := by decide +kernel
theorem dX12_row_59 : decode cX12_row 59 = .ok (.getfield 41, 3) := by decide +kernel
theorem dX12_row_62 : decode cX12_row 62 = .ok (.getfield 211, 3) := by decide +kernel
theorem dX12_row_65 : decode cX12_row 65 = .ok (.ireturn, 1) := by decide +kernel
set_option maxRecDepth 100000 in
theorem s_row (l : Launch) (dd : Nat) (z : Nat) (a : Nat → Nat) (sz fa nk oo be ho : Nat) (y p s : Nat) (ay ar : Nat → Nat) (D : zYd) (yr : Value) (ro : zRs) (bt : Nat → Nat) (x : Int32) (hd : 5 ≤ dd) (hsz : sz ≤ 740) (hbt : ∀ j, bt j < 256) (hD : yI D) (hW : cW ro) : zSp l mX12_row dd 1 sz [.ref z, .int x] [(z, .inr (10, fPR a sz fa nk oo be ho)), (a 0, .inl (0, 740, .inl (nF bt))), ((a 4), .inr (7, fSta y p s)), (y, .inr (9, fYard ay (ysN D.1 D.2.1))), (ay 1, .inl (0, 12, .inl (nF D.2.2.1))), (ay 2, .inl (0, 12, .inl (nF D.2.2.2.1))), (ay 3, .inl (0, 12, .inl (nF D.2.2.2.2.1))), (ay 4, .inl (0, 12, .inl (nF D.2.2.2.2.2.1))), (ay 5, .inl (0, 64, .inl (nF D.2.2.2.2.2.2.1))), (ay 6, .inl (1, 64, .inl (nF D.2.2.2.2.2.2.2))), ((a 8), .inr (4, fRow ar (nF ro.1) yr)), (ar 1, .inl (0, 12, .inl (nF (ro.2 1)))), (ar 2, .inl (0, 12, .inl (nF (ro.2 2)))), (ar 3, .inl (0, 12, .inl (nF (ro.2 3)))), (ar 4, .inl (0, 12, .inl (nF (ro.2 4)))), (ar 5, .inl (0, 12, .inl (nF (ro.2 5)))), (ar 6, .inl (0, 360, .inl (nF (ro.2 6)))), (ar 7, .inl (0, 12, .inl (nF (ro.2 7)))), (ar 8, .inl (0, 12, .inl (nF (ro.2 8)))), (ar 9, .inl (0, 12, .inl (nF (ro.2 9)))), (ar 10, .inl (0, 100, .inl (nF (ro.2 10))))] (fun r K' => (((pMn bt sz (D.1 0) 2 12) = 0 ∨ ¬ tkT x = true) ∧ r = some (.int (-1)) ∧ K' = [(z, .inr (10, fPR a 0 fa nk oo be ho)), (a 0, .inl (0, 740, .inl (nF bt))), ((a 4), .inr (7, fSta y p s)), (y, .inr (9, fYard ay (ysN D.1 D.2.1))), (ay 1, .inl (0, 12, .inl (nF D.2.2.1))), (ay 2, .inl (0, 12, .inl (nF D.2.2.2.1))), (ay 3, .inl (0, 12, .inl (nF D.2.2.2.2.1))), (ay 4, .inl (0, 12, .inl (nF D.2.2.2.2.2.1))), (ay 5, .inl (0, 64, .inl (nF D.2.2.2.2.2.2.1))), (ay 6, .inl (1, 64, .inl (nF D.2.2.2.2.2.2.2))), ((a 8), .inr (4, fRow ar (nF ro.1) yr)), (ar 1, .inl (0, 12, .inl (nF (ro.2 1)))), (ar 2, .inl (0, 12, .inl (nF (ro.2 2)))), (ar 3, .inl (0, 12, .inl (nF (ro.2 3)))), (ar 4, .inl (0, 12, .inl (nF (ro.2 4)))), (ar 5, .inl (0, 12, .inl (nF (ro.2 5)))), (ar 6, .inl (0, 360, .inl (nF (ro.2 6)))), (ar 7, .inl (0, 12, .inl (nF (ro.2 7)))), (ar 8, .inl (0, 12, .inl (nF (ro.2 8)))), (ar 9, .inl (0, 12, .inl (nF (ro.2 9)))), (ar 10, .inl (0, 100, .inl (nF (ro.2 10))))]) ∨ (∃ k, k ≤ 3600 ∧ x = nI k ∧ ¬ (pMn bt sz (D.1 0) 2 12) = 0 ∧ r = some (.int (nI ((rwB D (nCl bt (fun _ => 0) (pMn bt sz (D.1 0) 2 12)) (pMn bt sz (D.1 0) 2 12) (D.1 9) k ro).1 15))) ∧ K' = [(z, .inr (10, fPR a 0 fa nk oo be ho)), (a 0, .inl (0, 740, .inl (nF bt))), ((a 4), .inr (7, fSta y p s)), (y, .inr (9, fYard ay (ysN D.1 D.2.1))), (ay 1, .inl (0, 12, .inl (nF D.2.2.1))), (ay 2, .inl (0, 12, .inl (nF D.2.2.2.1))), (ay 3, .inl (0, 12, .inl (nF D.2.2.2.2.1))), (ay 4, .inl (0, 12, .inl (nF D.2.2.2.2.2.1))), (ay 5, .inl (0, 64, .inl (nF D.2.2.2.2.2.2.1))), (ay 6, .inl (1, 64, .inl (nF D.2.2.2.2.2.2.2))), ((a 8), .inr (4, fRow ar (nF (rwB D (nCl bt (fun _ => 0) (pMn bt sz (D.1 0) 2 12)) (pMn bt sz (D.1 0) 2 12) (D.1 9) k ro).1) (.ref y))), (ar 1, .inl (0, 12, .inl (nF ((rwB D (nCl bt (fun _ => 0) (pMn bt sz (D.1 0) 2 12)) (pMn bt sz (D.1 0) 2 12) (D.1 9) k ro).2 1)))), (ar 2, .inl (0, 12, .inl (nF ((rwB D (nCl bt (fun _ => 0) (pMn bt sz (D.1 0) 2 12)) (pMn bt sz (D.1 0) 2 12) (D.1 9) k ro).2 2)))), (ar 3, .inl (0, 12, .inl (nF ((rwB D (nCl bt (fun _ => 0) (pMn bt sz (D.1 0) 2 12)) (pMn bt sz (D.1 0) 2 12) (D.1 9) k ro).2 3)))), (ar 4, .inl (0, 12, .inl (nF ((rwB D (nCl bt (fun _ => 0) (pMn bt sz (D.1 0) 2 12)) (pMn bt sz (D.1 0) 2 12) (D.1 9) k ro).2 4)))), (ar 5, .inl (0, 12, .inl (nF ((rwB D (nCl bt (fun _ => 0) (pMn bt sz (D.1 0) 2 12)) (pMn bt sz (D.1 0) 2 12) (D.1 9) k ro).2 5)))), (ar 6, .inl (0, 360, .inl (nF ((rwB D (nCl bt (fun _ => 0) (pMn bt sz (D.1 0) 2 12)) (pMn bt sz (D.1 0) 2 12) (D.1 9) k ro).2 6)))), (ar 7, .inl (0, 12, .inl (nF ((rwB D (nCl bt (fun _ => 0) (pMn bt sz (D.1 0) 2 12)) (pMn bt sz (D.1 0) 2 12) (D.1 9) k ro).2 7)))), (ar 8, .inl (0, 12, .inl (nF ((rwB D (nCl bt (fun _ => 0) (pMn bt sz (D.1 0) 2 12)) (pMn bt sz (D.1 0) 2 12) (D.1 9) k ro).2 8)))), (ar 9, .inl (0, 12, .inl (nF ((rwB D (nCl bt (fun _ => 0) (pMn bt sz (D.1 0) 2 12)) (pMn bt sz (D.1 0) 2 12) (D.1 9) k ro).2 9)))), (ar 10, .inl (0, 100, .inl (nF ((rwB D (nCl bt (fun _ => 0) (pMn bt sz (D.1 0) 2 12)) (pMn bt sz (D.1 0) 2 12) (D.1 9) k ro).2 10))))])) := by
  refine zSp.of (by decide) (Nat.le_of_ble_eq_true rfl) (fun h0 => ?_)
  show zS _ 1 sz 0 [(0, .ref z), (1, .int x)] [] [(z, .inr (10, fPR a sz fa nk oo be ho)), (a 0, .inl (0, 740, .inl (nF bt))), ((a 4), .inr (7, fSta y p s)), (y, .inr (9, fYard ay (ysN D.1 D.2.1))), (ay 1, .inl (0, 12, .inl (nF D.2.2.1))), (ay 2, .inl (0, 12, .inl (nF D.2.2.2.1))), (ay 3, .inl (0, 12, .inl (nF D.2.2.2.2.1))), (ay 4, .inl (0, 12, .inl (nF D.2.2.2.2.2.1))), (ay 5, .inl (0, 64, .inl (nF D.2.2.2.2.2.2.1))), (ay 6, .inl (1, 64, .inl (nF D.2.2.2.2.2.2.2))), ((a 8), .inr (4, fRow ar (nF ro.1) yr)), (ar 1, .inl (0, 12, .inl (nF (ro.2 1)))), (ar 2, .inl (0, 12, .inl (nF (ro.2 2)))), (ar 3, .inl (0, 12, .inl (nF (ro.2 3)))), (ar 4, .inl (0, 12, .inl (nF (ro.2 4)))), (ar 5, .inl (0, 12, .inl (nF (ro.2 5)))), (ar 6, .inl (0, 360, .inl (nF (ro.2 6)))), (ar 7, .inl (0, 12, .inl (nF (ro.2 7)))), (ar 8, .inl (0, 12, .inl (nF (ro.2 8)))), (ar 9, .inl (0, 12, .inl (nF (ro.2 9)))), (ar 10, .inl (0, 100, .inl (nF (ro.2 10))))]
  obtain ⟨y1, y2, y3, y4, y5, y6, y7, y8, y9, y10, y11, y12, y13, y14, y15, y16, y17, y18, y19, y20⟩ := id hD
  have hbx := bN_1 (tkT x)
  refine zs_aload_n dX12_row_0 rfl rfl ?_
  refine zs_iconst (v := nI 2) dX12_row_1 (by decide) ?_
  refine zs_bipush (v := nI 12) dX12_row_2 (by decide) ?_
  have hMle : (pMn bt sz (D.1 0) 2 12) ≤ 12 := pMn_le
  refine zs_callV (M := mX12_takeMen) (As := [.int (nI 2), .int (nI 12)]) (st := []) (Kc := [(z, .inr (10, fPR a sz fa nk oo be ho)), (a 0, .inl (0, 740, .inl (nF bt))), ((a 4), .inr (7, fSta y p s)), (y, .inr (9, fYard ay (ysN D.1 D.2.1)))]) (Kr := [(ay 1, .inl (0, 12, .inl (nF D.2.2.1))), (ay 2, .inl (0, 12, .inl (nF D.2.2.2.1))), (ay 3, .inl (0, 12, .inl (nF D.2.2.2.2.1))), (ay 4, .inl (0, 12, .inl (nF D.2.2.2.2.2.1))), (ay 5, .inl (0, 64, .inl (nF D.2.2.2.2.2.2.1))), (ay 6, .inl (1, 64, .inl (nF D.2.2.2.2.2.2.2))), ((a 8), .inr (4, fRow ar (nF ro.1) yr)), (ar 1, .inl (0, 12, .inl (nF (ro.2 1)))), (ar 2, .inl (0, 12, .inl (nF (ro.2 2)))), (ar 3, .inl (0, 12, .inl (nF (ro.2 3)))), (ar 4, .inl (0, 12, .inl (nF (ro.2 4)))), (ar 5, .inl (0, 12, .inl (nF (ro.2 5)))), (ar 6, .inl (0, 360, .inl (nF (ro.2 6)))), (ar 7, .inl (0, 12, .inl (nF (ro.2 7)))), (ar 8, .inl (0, 12, .inl (nF (ro.2 8)))), (ar 9, .inl (0, 12, .inl (nF (ro.2 9)))), (ar 10, .inl (0, 100, .inl (nF (ro.2 10))))]) [0, 1, 2, 3] [4, 5, 6, 7, 8, 9, 10, 11, 12, 13, 14, 15, 16, 17, 18, 19, 20] 0 dX12_row_4 zl_RX12_193 kX12_takeMen rfl rfl rfl rfl rfl (by decide) rfl rfl (show dd - 1 + 1 ≤ dd by omega) (by omega) (by omega) (Nat.le_of_ble_eq_true rfl) (s_takeMen l (dd - 1) z a sz fa nk oo be ho bt y p s ay D 2 12 (by omega) hsz (by omega) (by omega) (by omega) hbt) (fun r K1 hr => ?_)
  obtain ⟨q, rfl, rfl⟩ := hr
  refine zs_K (K' := [(z, .inr (10, fPR a 0 fa nk oo be ho)), (a 0, .inl (0, 740, .inl (nF bt))), ((a 4), .inr (7, fSta y p s)), (y, .inr (9, fYard ay (ysN D.1 D.2.1))), (ay 1, .inl (0, 12, .inl (nF D.2.2.1))), (ay 2, .inl (0, 12, .inl (nF D.2.2.2.1))), (ay 3, .inl (0, 12, .inl (nF D.2.2.2.2.1))), (ay 4, .inl (0, 12, .inl (nF D.2.2.2.2.2.1))), (ay 5, .inl (0, 64, .inl (nF D.2.2.2.2.2.2.1))), (ay 6, .inl (1, 64, .inl (nF D.2.2.2.2.2.2.2))), ((a 8), .inr (4, fRow ar (nF ro.1) yr)), (ar 1, .inl (0, 12, .inl (nF (ro.2 1)))), (ar 2, .inl (0, 12, .inl (nF (ro.2 2)))), (ar 3, .inl (0, 12, .inl (nF (ro.2 3)))), (ar 4, .inl (0, 12, .inl (nF (ro.2 4)))), (ar 5, .inl (0, 12, .inl (nF (ro.2 5)))), (ar 6, .inl (0, 360, .inl (nF (ro.2 6)))), (ar 7, .inl (0, 12, .inl (nF (ro.2 7)))), (ar 8, .inl (0, 12, .inl (nF (ro.2 8)))), (ar 9, .inl (0, 12, .inl (nF (ro.2 9)))), (ar 10, .inl (0, 100, .inl (nF (ro.2 10)))), (q, .inl (0, (pMn bt sz (D.1 0) 2 12), .inl (nF (nCl bt (fun _ => 0) (pMn bt sz (D.1 0) 2 12)))))]) [17, 18, 19, 20, 0, 1, 2, 3, 4, 5, 6, 7, 8, 9, 10, 11, 12, 13, 14, 15, 16, 21] rfl (by decide) ?_
  refine zs_astore_n (lv' := [(2, .ref q), (0, .ref z), (1, .int x)]) dX12_row_7 (Nat.le_of_ble_eq_true rfl) rfl rfl ?_
  refine zs_aload_n dX12_row_8 rfl rfl ?_
  refine zs_alen (v := (nI (pMn bt sz (D.1 0) 2 12))) 21 dX12_row_9 rfl (by decide) rfl ?_
  refine zs_if_eq (tgt := 20) dX12_row_10 (by decide) (fun c_1 => ?_) (fun c_1 => ?_)
  · have c_1 : (pMn bt sz (D.1 0) 2 12) = 0 := by have hc := c_1; rw [show (0 : Int32) = nI 0 from rfl] at hc; rw [nI_eq' (by omega) (by omega)] at hc; exact hc
    refine zs_iconst (v := (-1)) dX12_row_20 (by decide) ?_
    refine zs_K (K' := [(z, .inr (10, fPR a 0 fa nk oo be ho)), (a 0, .inl (0, 740, .inl (nF bt))), ((a 4), .inr (7, fSta y p s)), (y, .inr (9, fYard ay (ysN D.1 D.2.1))), (ay 1, .inl (0, 12, .inl (nF D.2.2.1))), (ay 2, .inl (0, 12, .inl (nF D.2.2.2.1))), (ay 3, .inl (0, 12, .inl (nF D.2.2.2.2.1))), (ay 4, .inl (0, 12, .inl (nF D.2.2.2.2.2.1))), (ay 5, .inl (0, 64, .inl (nF D.2.2.2.2.2.2.1))), (ay 6, .inl (1, 64, .inl (nF D.2.2.2.2.2.2.2))), ((a 8), .inr (4, fRow ar (nF ro.1) yr)), (ar 1, .inl (0, 12, .inl (nF (ro.2 1)))), (ar 2, .inl (0, 12, .inl (nF (ro.2 2)))), (ar 3, .inl (0, 12, .inl (nF (ro.2 3)))), (ar 4, .inl (0, 12, .inl (nF (ro.2 4)))), (ar 5, .inl (0, 12, .inl (nF (ro.2 5)))), (ar 6, .inl (0, 360, .inl (nF (ro.2 6)))), (ar 7, .inl (0, 12, .inl (nF (ro.2 7)))), (ar 8, .inl (0, 12, .inl (nF (ro.2 8)))), (ar 9, .inl (0, 12, .inl (nF (ro.2 9)))), (ar 10, .inl (0, 100, .inl (nF (ro.2 10))))]) [0, 1, 2, 3, 4, 5, 6, 7, 8, 9, 10, 11, 12, 13, 14, 15, 16, 17, 18, 19, 20] rfl (by decide) ?_
    exact zs_iret dX12_row_21 rfl (Or.inl ⟨Or.inl c_1, rfl, rfl⟩)
  · have c_1 : ¬ ((pMn bt sz (D.1 0) 2 12) = 0) := by have hc := c_1; rw [show (0 : Int32) = nI 0 from rfl] at hc; rw [nI_eq' (by omega) (by omega)] at hc; exact hc
    refine zs_iload_n dX12_row_13 rfl ?_
    refine zs_callS (M := mX12_ticksTold) (As := [.int x]) (st := []) (Kc := []) (Kr := [(z, .inr (10, fPR a 0 fa nk oo be ho)), (a 0, .inl (0, 740, .inl (nF bt))), ((a 4), .inr (7, fSta y p s)), (y, .inr (9, fYard ay (ysN D.1 D.2.1))), (ay 1, .inl (0, 12, .inl (nF D.2.2.1))), (ay 2, .inl (0, 12, .inl (nF D.2.2.2.1))), (ay 3, .inl (0, 12, .inl (nF D.2.2.2.2.1))), (ay 4, .inl (0, 12, .inl (nF D.2.2.2.2.2.1))), (ay 5, .inl (0, 64, .inl (nF D.2.2.2.2.2.2.1))), (ay 6, .inl (1, 64, .inl (nF D.2.2.2.2.2.2.2))), ((a 8), .inr (4, fRow ar (nF ro.1) yr)), (ar 1, .inl (0, 12, .inl (nF (ro.2 1)))), (ar 2, .inl (0, 12, .inl (nF (ro.2 2)))), (ar 3, .inl (0, 12, .inl (nF (ro.2 3)))), (ar 4, .inl (0, 12, .inl (nF (ro.2 4)))), (ar 5, .inl (0, 12, .inl (nF (ro.2 5)))), (ar 6, .inl (0, 360, .inl (nF (ro.2 6)))), (ar 7, .inl (0, 12, .inl (nF (ro.2 7)))), (ar 8, .inl (0, 12, .inl (nF (ro.2 8)))), (ar 9, .inl (0, 12, .inl (nF (ro.2 9)))), (ar 10, .inl (0, 100, .inl (nF (ro.2 10)))), (q, .inl (0, (pMn bt sz (D.1 0) 2 12), .inl (nF (nCl bt (fun _ => 0) (pMn bt sz (D.1 0) 2 12)))))]) [] [0, 1, 2, 3, 4, 5, 6, 7, 8, 9, 10, 11, 12, 13, 14, 15, 16, 17, 18, 19, 20, 21] dX12_row_14 zl_RX12_197 kX12_ticksTold rfl rfl rfl rfl rfl (by decide) (show dd - 1 + 1 ≤ dd by omega) (Nat.zero_le _) (Nat.zero_le _) (Nat.le_of_ble_eq_true rfl) (s_ticks l (dd - 1) x) (fun r K1 hr => ?_)
    obtain ⟨rfl, rfl⟩ := hr
    refine zs_K (K' := [(z, .inr (10, fPR a 0 fa nk oo be ho)), (a 0, .inl (0, 740, .inl (nF bt))), ((a 4), .inr (7, fSta y p s)), (y, .inr (9, fYard ay (ysN D.1 D.2.1))), (ay 1, .inl (0, 12, .inl (nF D.2.2.1))), (ay 2, .inl (0, 12, .inl (nF D.2.2.2.1))), (ay 3, .inl (0, 12, .inl (nF D.2.2.2.2.1))), (ay 4, .inl (0, 12, .inl (nF D.2.2.2.2.2.1))), (ay 5, .inl (0, 64, .inl (nF D.2.2.2.2.2.2.1))), (ay 6, .inl (1, 64, .inl (nF D.2.2.2.2.2.2.2))), ((a 8), .inr (4, fRow ar (nF ro.1) yr)), (ar 1, .inl (0, 12, .inl (nF (ro.2 1)))), (ar 2, .inl (0, 12, .inl (nF (ro.2 2)))), (ar 3, .inl (0, 12, .inl (nF (ro.2 3)))), (ar 4, .inl (0, 12, .inl (nF (ro.2 4)))), (ar 5, .inl (0, 12, .inl (nF (ro.2 5)))), (ar 6, .inl (0, 360, .inl (nF (ro.2 6)))), (ar 7, .inl (0, 12, .inl (nF (ro.2 7)))), (ar 8, .inl (0, 12, .inl (nF (ro.2 8)))), (ar 9, .inl (0, 12, .inl (nF (ro.2 9)))), (ar 10, .inl (0, 100, .inl (nF (ro.2 10)))), (q, .inl (0, (pMn bt sz (D.1 0) 2 12), .inl (nF (nCl bt (fun _ => 0) (pMn bt sz (D.1 0) 2 12)))))]) [0, 1, 2, 3, 4, 5, 6, 7, 8, 9, 10, 11, 12, 13, 14, 15, 16, 17, 18, 19, 20, 21] rfl (by decide) ?_
    refine zs_if_ne (tgt := 22) dX12_row_17 (by decide) (fun c_2 => ?_) (fun c_2 => ?_)
    · have c_2 : ¬ ((bN (tkT x)) = 0) := by have hc := c_2; rw [show (0 : Int32) = nI 0 from rfl] at hc; rw [nI_eq' (by omega) (by omega)] at hc; exact hc
      obtain ⟨k, hk, rfl⟩ := tkT_k (bN_e c_2)
      have hM := pMn_k c_1
      refine zs_aload_n dX12_row_22 rfl rfl ?_
      refine zs_get 0 dX12_row_23 zf_RX12_41 rfl (v := .ref (a 8)) rfl ?_
      refine zs_aload_n dX12_row_26 rfl rfl ?_
      refine zs_get 0 dX12_row_27 zf_RX12_23 rfl (v := .ref (a 4)) rfl ?_
      refine zs_get 2 dX12_row_30 zf_RX12_96 rfl (v := .ref y) rfl ?_
      refine zs_aload_n dX12_row_33 rfl rfl ?_
      refine zs_iconst (v := nI 0) dX12_row_34 (by decide) ?_
      refine zs_aload_n dX12_row_35 rfl rfl ?_
      refine zs_alen (v := (nI (pMn bt sz (D.1 0) 2 12))) 21 dX12_row_36 rfl (by decide) rfl ?_
      refine zs_aload_n dX12_row_37 rfl rfl ?_
      refine zs_get 0 dX12_row_38 zf_RX12_23 rfl (v := .ref (a 4)) rfl ?_
      refine zs_get 2 dX12_row_41 zf_RX12_96 rfl (v := .ref y) rfl ?_
      refine zs_get 3 dX12_row_44 zf_RX12_201 rfl (v := .int (nI (D.1 9))) rfl ?_
      refine zs_callV (M := mX5_begin) (As := [.ref y, .ref q, .int (nI 0), .int (nI (pMn bt sz (D.1 0) 2 12)), .int (nI (D.1 9))]) (st := []) (Kc := [((a 8), .inr (4, fRow ar (nF ro.1) yr)), (ar 1, .inl (0, 12, .inl (nF (ro.2 1)))), (ar 2, .inl (0, 12, .inl (nF (ro.2 2)))), (ar 3, .inl (0, 12, .inl (nF (ro.2 3)))), (ar 4, .inl (0, 12, .inl (nF (ro.2 4)))), (ar 5, .inl (0, 12, .inl (nF (ro.2 5)))), (ar 6, .inl (0, 360, .inl (nF (ro.2 6)))), (ar 7, .inl (0, 12, .inl (nF (ro.2 7)))), (ar 8, .inl (0, 12, .inl (nF (ro.2 8)))), (ar 9, .inl (0, 12, .inl (nF (ro.2 9)))), (ar 10, .inl (0, 100, .inl (nF (ro.2 10)))), (y, .inr (9, fYard ay (ysN D.1 D.2.1))), (ay 1, .inl (0, 12, .inl (nF D.2.2.1))), (ay 2, .inl (0, 12, .inl (nF D.2.2.2.1))), (ay 3, .inl (0, 12, .inl (nF D.2.2.2.2.1))), (ay 4, .inl (0, 12, .inl (nF D.2.2.2.2.2.1))), (ay 5, .inl (0, 64, .inl (nF D.2.2.2.2.2.2.1))), (ay 6, .inl (1, 64, .inl (nF D.2.2.2.2.2.2.2))), (q, .inl (0, (pMn bt sz (D.1 0) 2 12), .inl (nF (nCl bt (fun _ => 0) (pMn bt sz (D.1 0) 2 12)))))]) (Kr := [(z, .inr (10, fPR a 0 fa nk oo be ho)), (a 0, .inl (0, 740, .inl (nF bt))), ((a 4), .inr (7, fSta y p s))]) [10, 11, 12, 13, 14, 15, 16, 17, 18, 19, 20, 3, 4, 5, 6, 7, 8, 9, 21] [0, 1, 2] 0 dX12_row_47 zl_RX12_204 kX5_begin rfl rfl rfl rfl rfl (by decide) rfl rfl (show dd - 1 + 1 ≤ dd by omega) (Nat.zero_le _) (Nat.zero_le _) (Nat.le_of_ble_eq_true rfl) (s_rowBegin l (dd - 1) (a 8) y q (pMn bt sz (D.1 0) 2 12) ar ay yr ro D.1 D.2.1 (nF D.2.2.1) D.2.2.2.1 D.2.2.2.2.1 D.2.2.2.2.2.1 (nCl bt (fun _ => 0) (pMn bt sz (D.1 0) 2 12)) (nF D.2.2.2.2.2.2.1) (nF D.2.2.2.2.2.2.2) 0 (pMn bt sz (D.1 0) 2 12) (D.1 9) (by omega) ⟨hM.1, hM.2.1⟩ (by omega) (by omega) (fun i hi => by rw [Nat.zero_add]; exact nCl_f hM.2.2.2.1 i hi) (by omega) (by omega) (by omega) (by omega) (fun j _ => (y8 j).1)) (fun r K1 hr => ?_)
      obtain ⟨rfl, rfl⟩ := hr
      refine zs_K (K' := [(z, .inr (10, fPR a 0 fa nk oo be ho)), (a 0, .inl (0, 740, .inl (nF bt))), ((a 4), .inr (7, fSta y p s)), (y, .inr (9, fYard ay (ysN D.1 D.2.1))), (ay 1, .inl (0, 12, .inl (nF D.2.2.1))), (ay 2, .inl (0, 12, .inl (nF D.2.2.2.1))), (ay 3, .inl (0, 12, .inl (nF D.2.2.2.2.1))), (ay 4, .inl (0, 12, .inl (nF D.2.2.2.2.2.1))), (ay 5, .inl (0, 64, .inl (nF D.2.2.2.2.2.2.1))), (ay 6, .inl (1, 64, .inl (nF D.2.2.2.2.2.2.2))), ((a 8), .inr (4, fRow ar (nF (cBeg D.1 D.2.2.2.1 (nCl bt (fun _ => 0) (pMn bt sz (D.1 0) 2 12)) 0 (pMn bt sz (D.1 0) 2 12) (D.1 9) ro).1) (.ref y))), (ar 1, .inl (0, 12, .inl (nF ((cBeg D.1 D.2.2.2.1 (nCl bt (fun _ => 0) (pMn bt sz (D.1 0) 2 12)) 0 (pMn bt sz (D.1 0) 2 12) (D.1 9) ro).2 1)))), (ar 2, .inl (0, 12, .inl (nF ((cBeg D.1 D.2.2.2.1 (nCl bt (fun _ => 0) (pMn bt sz (D.1 0) 2 12)) 0 (pMn bt sz (D.1 0) 2 12) (D.1 9) ro).2 2)))), (ar 3, .inl (0, 12, .inl (nF ((cBeg D.1 D.2.2.2.1 (nCl bt (fun _ => 0) (pMn bt sz (D.1 0) 2 12)) 0 (pMn bt sz (D.1 0) 2 12) (D.1 9) ro).2 3)))), (ar 4, .inl (0, 12, .inl (nF ((cBeg D.1 D.2.2.2.1 (nCl bt (fun _ => 0) (pMn bt sz (D.1 0) 2 12)) 0 (pMn bt sz (D.1 0) 2 12) (D.1 9) ro).2 4)))), (ar 5, .inl (0, 12, .inl (nF ((cBeg D.1 D.2.2.2.1 (nCl bt (fun _ => 0) (pMn bt sz (D.1 0) 2 12)) 0 (pMn bt sz (D.1 0) 2 12) (D.1 9) ro).2 5)))), (ar 6, .inl (0, 360, .inl (nF ((cBeg D.1 D.2.2.2.1 (nCl bt (fun _ => 0) (pMn bt sz (D.1 0) 2 12)) 0 (pMn bt sz (D.1 0) 2 12) (D.1 9) ro).2 6)))), (ar 7, .inl (0, 12, .inl (nF ((cBeg D.1 D.2.2.2.1 (nCl bt (fun _ => 0) (pMn bt sz (D.1 0) 2 12)) 0 (pMn bt sz (D.1 0) 2 12) (D.1 9) ro).2 7)))), (ar 8, .inl (0, 12, .inl (nF ((cBeg D.1 D.2.2.2.1 (nCl bt (fun _ => 0) (pMn bt sz (D.1 0) 2 12)) 0 (pMn bt sz (D.1 0) 2 12) (D.1 9) ro).2 8)))), (ar 9, .inl (0, 12, .inl (nF ((cBeg D.1 D.2.2.2.1 (nCl bt (fun _ => 0) (pMn bt sz (D.1 0) 2 12)) 0 (pMn bt sz (D.1 0) 2 12) (D.1 9) ro).2 9)))), (ar 10, .inl (0, 100, .inl (nF ((cBeg D.1 D.2.2.2.1 (nCl bt (fun _ => 0) (pMn bt sz (D.1 0) 2 12)) 0 (pMn bt sz (D.1 0) 2 12) (D.1 9) ro).2 10)))), (q, .inl (0, (pMn bt sz (D.1 0) 2 12), .inl (nF (nCl bt (fun _ => 0) (pMn bt sz (D.1 0) 2 12)))))]) [0, 1, 2, 14, 15, 16, 17, 18, 19, 20, 3, 4, 5, 6, 7, 8, 9, 10, 11, 12, 13, 21] rfl (by decide) ?_
      refine zs_aload_n dX12_row_50 rfl rfl ?_
      refine zs_get 0 dX12_row_51 zf_RX12_41 rfl (v := .ref (a 8)) rfl ?_
      refine zs_iload_n dX12_row_54 rfl ?_
      refine zs_callV (M := mX5_work) (As := [.int (nI k)]) (st := []) (Kc := [((a 8), .inr (4, fRow ar (nF (cBeg D.1 D.2.2.2.1 (nCl bt (fun _ => 0) (pMn bt sz (D.1 0) 2 12)) 0 (pMn bt sz (D.1 0) 2 12) (D.1 9) ro).1) (.ref y))), (ar 1, .inl (0, 12, .inl (nF ((cBeg D.1 D.2.2.2.1 (nCl bt (fun _ => 0) (pMn bt sz (D.1 0) 2 12)) 0 (pMn bt sz (D.1 0) 2 12) (D.1 9) ro).2 1)))), (ar 2, .inl (0, 12, .inl (nF ((cBeg D.1 D.2.2.2.1 (nCl bt (fun _ => 0) (pMn bt sz (D.1 0) 2 12)) 0 (pMn bt sz (D.1 0) 2 12) (D.1 9) ro).2 2)))), (ar 3, .inl (0, 12, .inl (nF ((cBeg D.1 D.2.2.2.1 (nCl bt (fun _ => 0) (pMn bt sz (D.1 0) 2 12)) 0 (pMn bt sz (D.1 0) 2 12) (D.1 9) ro).2 3)))), (ar 4, .inl (0, 12, .inl (nF ((cBeg D.1 D.2.2.2.1 (nCl bt (fun _ => 0) (pMn bt sz (D.1 0) 2 12)) 0 (pMn bt sz (D.1 0) 2 12) (D.1 9) ro).2 4)))), (ar 5, .inl (0, 12, .inl (nF ((cBeg D.1 D.2.2.2.1 (nCl bt (fun _ => 0) (pMn bt sz (D.1 0) 2 12)) 0 (pMn bt sz (D.1 0) 2 12) (D.1 9) ro).2 5)))), (ar 6, .inl (0, 360, .inl (nF ((cBeg D.1 D.2.2.2.1 (nCl bt (fun _ => 0) (pMn bt sz (D.1 0) 2 12)) 0 (pMn bt sz (D.1 0) 2 12) (D.1 9) ro).2 6)))), (ar 7, .inl (0, 12, .inl (nF ((cBeg D.1 D.2.2.2.1 (nCl bt (fun _ => 0) (pMn bt sz (D.1 0) 2 12)) 0 (pMn bt sz (D.1 0) 2 12) (D.1 9) ro).2 7)))), (ar 8, .inl (0, 12, .inl (nF ((cBeg D.1 D.2.2.2.1 (nCl bt (fun _ => 0) (pMn bt sz (D.1 0) 2 12)) 0 (pMn bt sz (D.1 0) 2 12) (D.1 9) ro).2 8)))), (ar 9, .inl (0, 12, .inl (nF ((cBeg D.1 D.2.2.2.1 (nCl bt (fun _ => 0) (pMn bt sz (D.1 0) 2 12)) 0 (pMn bt sz (D.1 0) 2 12) (D.1 9) ro).2 9)))), (ar 10, .inl (0, 100, .inl (nF ((cBeg D.1 D.2.2.2.1 (nCl bt (fun _ => 0) (pMn bt sz (D.1 0) 2 12)) 0 (pMn bt sz (D.1 0) 2 12) (D.1 9) ro).2 10)))), (y, .inr (9, fYard ay (ysN D.1 D.2.1))), (ay 1, .inl (0, 12, .inl (nF D.2.2.1))), (ay 2, .inl (0, 12, .inl (nF D.2.2.2.1))), (ay 3, .inl (0, 12, .inl (nF D.2.2.2.2.1))), (ay 4, .inl (0, 12, .inl (nF D.2.2.2.2.2.1))), (ay 5, .inl (0, 64, .inl (nF D.2.2.2.2.2.2.1))), (ay 6, .inl (1, 64, .inl (nF D.2.2.2.2.2.2.2)))]) (Kr := [(z, .inr (10, fPR a 0 fa nk oo be ho)), (a 0, .inl (0, 740, .inl (nF bt))), ((a 4), .inr (7, fSta y p s)), (q, .inl (0, (pMn bt sz (D.1 0) 2 12), .inl (nF (nCl bt (fun _ => 0) (pMn bt sz (D.1 0) 2 12)))))]) [10, 11, 12, 13, 14, 15, 16, 17, 18, 19, 20, 3, 4, 5, 6, 7, 8, 9] [0, 1, 2, 21] 0 dX12_row_55 zl_RX12_208 kX5_work rfl rfl rfl rfl rfl (by decide) rfl rfl (show dd - 1 + 1 ≤ dd by omega) (Nat.zero_le _) (Nat.zero_le _) (Nat.le_of_ble_eq_true rfl) (s_rowWorkP l (dd - 1) (a 8) y ar ay (cBeg D.1 D.2.2.2.1 (nCl bt (fun _ => 0) (pMn bt sz (D.1 0) 2 12)) 0 (pMn bt sz (D.1 0) 2 12) (D.1 9) ro) D.1 D.2.1 (nF D.2.2.1) D.2.2.2.1 D.2.2.2.2.1 D.2.2.2.2.2.1 (nF D.2.2.2.2.2.2.1) (nF D.2.2.2.2.2.2.2) k (D.1 6) 0 (by omega) (by omega) (by omega) y12 (by omega) (by omega) (fun j _ => (y8 j).2.2) (cBeg_J (Y := D.1) (ff := (nCl bt (fun _ => 0) (pMn bt sz (D.1 0) 2 12))) (hdd := D.2.2.2.1) (first := 0) (w := D.1 9) hW ⟨hM.1, hM.2.1⟩ (fun i hi => by rw [Nat.zero_add]; have := nCl_f hM.2.2.2.1 i hi; omega) (by omega) (by omega) (by omega) (fun i hi => by rw [Nat.zero_add]; exact ⟨(y9 _ (nCl_f hM.2.2.2.1 i hi)).1, (y8 _).1⟩) (by omega))) (fun r K1 hr => ?_)
      obtain ⟨rfl, rfl⟩ := hr
      refine zs_K (K' := [(z, .inr (10, fPR a 0 fa nk oo be ho)), (a 0, .inl (0, 740, .inl (nF bt))), ((a 4), .inr (7, fSta y p s)), (y, .inr (9, fYard ay (ysN D.1 D.2.1))), (ay 1, .inl (0, 12, .inl (nF D.2.2.1))), (ay 2, .inl (0, 12, .inl (nF D.2.2.2.1))), (ay 3, .inl (0, 12, .inl (nF D.2.2.2.2.1))), (ay 4, .inl (0, 12, .inl (nF D.2.2.2.2.2.1))), (ay 5, .inl (0, 64, .inl (nF D.2.2.2.2.2.2.1))), (ay 6, .inl (1, 64, .inl (nF D.2.2.2.2.2.2.2))), ((a 8), .inr (4, fRow ar (nF (rwB D (nCl bt (fun _ => 0) (pMn bt sz (D.1 0) 2 12)) (pMn bt sz (D.1 0) 2 12) (D.1 9) k ro).1) (.ref y))), (ar 1, .inl (0, 12, .inl (nF ((rwB D (nCl bt (fun _ => 0) (pMn bt sz (D.1 0) 2 12)) (pMn bt sz (D.1 0) 2 12) (D.1 9) k ro).2 1)))), (ar 2, .inl (0, 12, .inl (nF ((rwB D (nCl bt (fun _ => 0) (pMn bt sz (D.1 0) 2 12)) (pMn bt sz (D.1 0) 2 12) (D.1 9) k ro).2 2)))), (ar 3, .inl (0, 12, .inl (nF ((rwB D (nCl bt (fun _ => 0) (pMn bt sz (D.1 0) 2 12)) (pMn bt sz (D.1 0) 2 12) (D.1 9) k ro).2 3)))), (ar 4, .inl (0, 12, .inl (nF ((rwB D (nCl bt (fun _ => 0) (pMn bt sz (D.1 0) 2 12)) (pMn bt sz (D.1 0) 2 12) (D.1 9) k ro).2 4)))), (ar 5, .inl (0, 12, .inl (nF ((rwB D (nCl bt (fun _ => 0) (pMn bt sz (D.1 0) 2 12)) (pMn bt sz (D.1 0) 2 12) (D.1 9) k ro).2 5)))), (ar 6, .inl (0, 360, .inl (nF ((rwB D (nCl bt (fun _ => 0) (pMn bt sz (D.1 0) 2 12)) (pMn bt sz (D.1 0) 2 12) (D.1 9) k ro).2 6)))), (ar 7, .inl (0, 12, .inl (nF ((rwB D (nCl bt (fun _ => 0) (pMn bt sz (D.1 0) 2 12)) (pMn bt sz (D.1 0) 2 12) (D.1 9) k ro).2 7)))), (ar 8, .inl (0, 12, .inl (nF ((rwB D (nCl bt (fun _ => 0) (pMn bt sz (D.1 0) 2 12)) (pMn bt sz (D.1 0) 2 12) (D.1 9) k ro).2 8)))), (ar 9, .inl (0, 12, .inl (nF ((rwB D (nCl bt (fun _ => 0) (pMn bt sz (D.1 0) 2 12)) (pMn bt sz (D.1 0) 2 12) (D.1 9) k ro).2 9)))), (ar 10, .inl (0, 100, .inl (nF ((rwB D (nCl bt (fun _ => 0) (pMn bt sz (D.1 0) 2 12)) (pMn bt sz (D.1 0) 2 12) (D.1 9) k ro).2 10)))), (q, .inl (0, (pMn bt sz (D.1 0) 2 12), .inl (nF (nCl bt (fun _ => 0) (pMn bt sz (D.1 0) 2 12)))))]) [0, 1, 2, 15, 16, 17, 18, 19, 20, 21, 4, 5, 6, 7, 8, 9, 10, 11, 12, 13, 14, 3] rfl (by decide) ?_
      refine zs_aload_n dX12_row_58 rfl rfl ?_
      refine zs_get 0 dX12_row_59 zf_RX12_41 rfl (v := .ref (a 8)) rfl ?_
      refine zs_get 10 dX12_row_62 zf_RX12_211 rfl (v := .int (nI ((rwB D (nCl bt (fun _ => 0) (pMn bt sz (D.1 0) 2 12)) (pMn bt sz (D.1 0) 2 12) (D.1 9) k ro).1 15))) rfl ?_
      refine zs_K (K' := [(z, .inr (10, fPR a 0 fa nk oo be ho)), (a 0, .inl (0, 740, .inl (nF bt))), ((a 4), .inr (7, fSta y p s)), (y, .inr (9, fYard ay (ysN D.1 D.2.1))), (ay 1, .inl (0, 12, .inl (nF D.2.2.1))), (ay 2, .inl (0, 12, .inl (nF D.2.2.2.1))), (ay 3, .inl (0, 12, .inl (nF D.2.2.2.2.1))), (ay 4, .inl (0, 12, .inl (nF D.2.2.2.2.2.1))), (ay 5, .inl (0, 64, .inl (nF D.2.2.2.2.2.2.1))), (ay 6, .inl (1, 64, .inl (nF D.2.2.2.2.2.2.2))), ((a 8), .inr (4, fRow ar (nF (rwB D (nCl bt (fun _ => 0) (pMn bt sz (D.1 0) 2 12)) (pMn bt sz (D.1 0) 2 12) (D.1 9) k ro).1) (.ref y))), (ar 1, .inl (0, 12, .inl (nF ((rwB D (nCl bt (fun _ => 0) (pMn bt sz (D.1 0) 2 12)) (pMn bt sz (D.1 0) 2 12) (D.1 9) k ro).2 1)))), (ar 2, .inl (0, 12, .inl (nF ((rwB D (nCl bt (fun _ => 0) (pMn bt sz (D.1 0) 2 12)) (pMn bt sz (D.1 0) 2 12) (D.1 9) k ro).2 2)))), (ar 3, .inl (0, 12, .inl (nF ((rwB D (nCl bt (fun _ => 0) (pMn bt sz (D.1 0) 2 12)) (pMn bt sz (D.1 0) 2 12) (D.1 9) k ro).2 3)))), (ar 4, .inl (0, 12, .inl (nF ((rwB D (nCl bt (fun _ => 0) (pMn bt sz (D.1 0) 2 12)) (pMn bt sz (D.1 0) 2 12) (D.1 9) k ro).2 4)))), (ar 5, .inl (0, 12, .inl (nF ((rwB D (nCl bt (fun _ => 0) (pMn bt sz (D.1 0) 2 12)) (pMn bt sz (D.1 0) 2 12) (D.1 9) k ro).2 5)))), (ar 6, .inl (0, 360, .inl (nF ((rwB D (nCl bt (fun _ => 0) (pMn bt sz (D.1 0) 2 12)) (pMn bt sz (D.1 0) 2 12) (D.1 9) k ro).2 6)))), (ar 7, .inl (0, 12, .inl (nF ((rwB D (nCl bt (fun _ => 0) (pMn bt sz (D.1 0) 2 12)) (pMn bt sz (D.1 0) 2 12) (D.1 9) k ro).2 7)))), (ar 8, .inl (0, 12, .inl (nF ((rwB D (nCl bt (fun _ => 0) (pMn bt sz (D.1 0) 2 12)) (pMn bt sz (D.1 0) 2 12) (D.1 9) k ro).2 8)))), (ar 9, .inl (0, 12, .inl (nF ((rwB D (nCl bt (fun _ => 0) (pMn bt sz (D.1 0) 2 12)) (pMn bt sz (D.1 0) 2 12) (D.1 9) k ro).2 9)))), (ar 10, .inl (0, 100, .inl (nF ((rwB D (nCl bt (fun _ => 0) (pMn bt sz (D.1 0) 2 12)) (pMn bt sz (D.1 0) 2 12) (D.1 9) k ro).2 10))))]) [0, 1, 2, 3, 4, 5, 6, 7, 8, 9, 10, 11, 12, 13, 14, 15, 16, 17, 18, 19, 20] rfl (by decide) ?_
      exact zs_iret dX12_row_65 rfl (Or.inr ⟨k, hk, rfl, c_1, rfl, rfl⟩)
    · have c_2 : (bN (tkT x)) = 0 := by have hc := c_2; rw [show (0 : Int32) = nI 0 from rfl] at hc; rw [nI_eq' (by omega) (by omega)] at hc; exact hc
      refine zs_iconst (v := (-1)) dX12_row_20 (by decide) ?_
      refine zs_K (K' := [(z, .inr (10, fPR a 0 fa nk oo be ho)), (a 0, .inl (0, 740, .inl (nF bt))), ((a 4), .inr (7, fSta y p s)), (y, .inr (9, fYard ay (ysN D.1 D.2.1))), (ay 1, .inl (0, 12, .inl (nF D.2.2.1))), (ay 2, .inl (0, 12, .inl (nF D.2.2.2.1))), (ay 3, .inl (0, 12, .inl (nF D.2.2.2.2.1))), (ay 4, .inl (0, 12, .inl (nF D.2.2.2.2.2.1))), (ay 5, .inl (0, 64, .inl (nF D.2.2.2.2.2.2.1))), (ay 6, .inl (1, 64, .inl (nF D.2.2.2.2.2.2.2))), ((a 8), .inr (4, fRow ar (nF ro.1) yr)), (ar 1, .inl (0, 12, .inl (nF (ro.2 1)))), (ar 2, .inl (0, 12, .inl (nF (ro.2 2)))), (ar 3, .inl (0, 12, .inl (nF (ro.2 3)))), (ar 4, .inl (0, 12, .inl (nF (ro.2 4)))), (ar 5, .inl (0, 12, .inl (nF (ro.2 5)))), (ar 6, .inl (0, 360, .inl (nF (ro.2 6)))), (ar 7, .inl (0, 12, .inl (nF (ro.2 7)))), (ar 8, .inl (0, 12, .inl (nF (ro.2 8)))), (ar 9, .inl (0, 12, .inl (nF (ro.2 9)))), (ar 10, .inl (0, 100, .inl (nF (ro.2 10))))]) [0, 1, 2, 3, 4, 5, 6, 7, 8, 9, 10, 11, 12, 13, 14, 15, 16, 17, 18, 19, 20] rfl (by decide) ?_
      exact zs_iret dX12_row_21 rfl (Or.inl ⟨Or.inr (bN_f0 c_2), rfl, rfl⟩)
theorem dX12_running_0 : decode cX12_running 0 = .ok (.aload_n 0, 1) := by decide +kernel
theorem dX12_running_1 : decode cX12_running 1 = .ok (.iconst 1, 1) := by decide +kernel
theorem dX12_running_2 : decode cX12_running 2 = .ok (.bipush 12, 2) := by decide +kernel
theorem dX12_running_4 : decode cX12_running 4 = .ok (.invokevirtual 193, 3) := by decide +kernel
theorem dX12_running_7 : decode cX12_running 7 = .ok (.astore_n 2, 1) := by decide +kernel
theorem dX12_running_8 : decode cX12_running 8 = .ok (.aload_n 2, 1) := by decide +kernel
theorem dX12_running_9 : decode cX12_running 9 = .ok (.arraylength, 1) := by decide +kernel
theorem dX12_running_10 : decode cX12_running 10 = .ok (.ifCond .eq 10, 3) := by decide +kernel
theorem dX12_running_13 : decode cX12_running 13 = .ok (.iload_n 1, 1) := by decide +kernel
theorem dX12_running_14 : decode cX12_running 14 = .ok (.invokestatic 197, 3) := by decide +kernel
theorem dX12_running_17 : decode cX12_running 17 = .ok (.ifCond .ne 5, 3) := by decide +kernel
theorem dX12_running_20 : decode cX12_running 20 = .ok (.iconst (-1), 1) := by decide +kernel
theorem dX12_running_21 : decode cX12_running 21 = .ok (.ireturn, 1) := by decide +kernel
theorem dX12_running_22 : decode cX12_running 22 = .ok (.aload_n 0, 1) := by decide +kernel
theorem dX12_running_23 : decode cX12_running 23 = .ok (.aload_n 2, 1) := by decide +kernel
theorem dX12_running_24 : decode cX12_running 24 = .ok (.aload_n 2, 1) := by decide +kernel
theorem dX12_running_25 : decode cX12_running 25 = .ok (.arraylength, 1) := by decide +kernel
theorem dX12_running_26 : decode cX12_running 26 = .ok (.iload_n 1, 1) := by decide +kernel
theorem dX12_running_27 : decode cX12_running 27 = .ok (.invokevirtual 269, 3) := by decide +kernel
theorem dX12_running_30 : decode cX12_running 30 = .ok (.ireturn, 1) := by decide +kernel
set_option maxRecDepth 100000 in
theorem s_running (l : Launch) (dd : Nat) (z : Nat) (a : Nat → Nat) (sz fa nk oo be ho : Nat) (y p s : Nat) (ay au : Nat → Nat) (D : zYd) (yu : Value) (ru : zRs) (bt : Nat → Nat) (x : Int32) (hd : 5 ≤ dd) (hsz : sz ≤ 740) (hbt : ∀ j, bt j < 256) (hD : yI D) (hI : rI ru) : zSp l mX12_running dd 1 sz [.ref z, .int x] [(z, .inr (10, fPR a sz fa nk oo be ho)), (a 0, .inl (0, 740, .inl (nF bt))), ((a 4), .inr (7, fSta y p s)), (y, .inr (9, fYard ay (ysN D.1 D.2.1))), (ay 3, .inl (0, 12, .inl (nF D.2.2.2.2.1))), ((a 10), .inr (5, fRun au (nF ru.1) yu)), (au 1, .inl (0, 12, .inl (nF (ru.2 1)))), (au 2, .inl (0, 12, .inl (nF (ru.2 2)))), (au 3, .inl (0, 12, .inl (nF (ru.2 3)))), (au 4, .inl (0, 12, .inl (nF (ru.2 4))))] (fun r K' => (((pMn bt sz (D.1 0) 1 12) = 0 ∨ ¬ tkT x = true) ∧ r = some (.int (-1)) ∧ K' = [(z, .inr (10, fPR a 0 fa nk oo be ho)), (a 0, .inl (0, 740, .inl (nF bt))), ((a 4), .inr (7, fSta y p s)), (y, .inr (9, fYard ay (ysN D.1 D.2.1))), (ay 3, .inl (0, 12, .inl (nF D.2.2.2.2.1))), ((a 10), .inr (5, fRun au (nF ru.1) yu)), (au 1, .inl (0, 12, .inl (nF (ru.2 1)))), (au 2, .inl (0, 12, .inl (nF (ru.2 2)))), (au 3, .inl (0, 12, .inl (nF (ru.2 3)))), (au 4, .inl (0, 12, .inl (nF (ru.2 4))))]) ∨ (∃ k, k ≤ 3600 ∧ x = nI k ∧ ¬ (pMn bt sz (D.1 0) 1 12) = 0 ∧ r = some (.int (nI ((rnB D (nCl bt (fun _ => 0) (pMn bt sz (D.1 0) 1 12)) (pMn bt sz (D.1 0) 1 12) k ru).1 8))) ∧ K' = [(z, .inr (10, fPR a 0 fa nk oo be ho)), (a 0, .inl (0, 740, .inl (nF bt))), ((a 4), .inr (7, fSta y p s)), (y, .inr (9, fYard ay (ysN D.1 D.2.1))), (ay 3, .inl (0, 12, .inl (nF D.2.2.2.2.1))), ((a 10), .inr (5, fRun au (nF (rnB D (nCl bt (fun _ => 0) (pMn bt sz (D.1 0) 1 12)) (pMn bt sz (D.1 0) 1 12) k ru).1) (.ref y))), (au 1, .inl (0, 12, .inl (nF ((rnB D (nCl bt (fun _ => 0) (pMn bt sz (D.1 0) 1 12)) (pMn bt sz (D.1 0) 1 12) k ru).2 1)))), (au 2, .inl (0, 12, .inl (nF ((rnB D (nCl bt (fun _ => 0) (pMn bt sz (D.1 0) 1 12)) (pMn bt sz (D.1 0) 1 12) k ru).2 2)))), (au 3, .inl (0, 12, .inl (nF ((rnB D (nCl bt (fun _ => 0) (pMn bt sz (D.1 0) 1 12)) (pMn bt sz (D.1 0) 1 12) k ru).2 3)))), (au 4, .inl (0, 12, .inl (nF ((rnB D (nCl bt (fun _ => 0) (pMn bt sz (D.1 0) 1 12)) (pMn bt sz (D.1 0) 1 12) k ru).2 4))))])) := by
  refine zSp.of (by decide) (Nat.le_of_ble_eq_true rfl) (fun h0 => ?_)
  show zS _ 1 sz 0 [(0, .ref z), (1, .int x)] [] [(z, .inr (10, fPR a sz fa nk oo be ho)), (a 0, .inl (0, 740, .inl (nF bt))), ((a 4), .inr (7, fSta y p s)), (y, .inr (9, fYard ay (ysN D.1 D.2.1))), (ay 3, .inl (0, 12, .inl (nF D.2.2.2.2.1))), ((a 10), .inr (5, fRun au (nF ru.1) yu)), (au 1, .inl (0, 12, .inl (nF (ru.2 1)))), (au 2, .inl (0, 12, .inl (nF (ru.2 2)))), (au 3, .inl (0, 12, .inl (nF (ru.2 3)))), (au 4, .inl (0, 12, .inl (nF (ru.2 4))))]
  obtain ⟨y1, y2, y3, y4, y5, y6, y7, y8, y9, y10, y11, y12, y13, y14, y15, y16, y17, y18, y19, y20⟩ := id hD
  have hbx := bN_1 (tkT x)
  refine zs_aload_n dX12_running_0 rfl rfl ?_
  refine zs_iconst (v := nI 1) dX12_running_1 (by decide) ?_
  refine zs_bipush (v := nI 12) dX12_running_2 (by decide) ?_
  have hMle : (pMn bt sz (D.1 0) 1 12) ≤ 12 := pMn_le
  refine zs_callV (M := mX12_takeMen) (As := [.int (nI 1), .int (nI 12)]) (st := []) (Kc := [(z, .inr (10, fPR a sz fa nk oo be ho)), (a 0, .inl (0, 740, .inl (nF bt))), ((a 4), .inr (7, fSta y p s)), (y, .inr (9, fYard ay (ysN D.1 D.2.1)))]) (Kr := [(ay 3, .inl (0, 12, .inl (nF D.2.2.2.2.1))), ((a 10), .inr (5, fRun au (nF ru.1) yu)), (au 1, .inl (0, 12, .inl (nF (ru.2 1)))), (au 2, .inl (0, 12, .inl (nF (ru.2 2)))), (au 3, .inl (0, 12, .inl (nF (ru.2 3)))), (au 4, .inl (0, 12, .inl (nF (ru.2 4))))]) [0, 1, 2, 3] [4, 5, 6, 7, 8, 9] 0 dX12_running_4 zl_RX12_193 kX12_takeMen rfl rfl rfl rfl rfl (by decide) rfl rfl (show dd - 1 + 1 ≤ dd by omega) (by omega) (by omega) (Nat.le_of_ble_eq_true rfl) (s_takeMen l (dd - 1) z a sz fa nk oo be ho bt y p s ay D 1 12 (by omega) hsz (by omega) (by omega) (by omega) hbt) (fun r K1 hr => ?_)
  obtain ⟨q, rfl, rfl⟩ := hr
  refine zs_K (K' := [(z, .inr (10, fPR a 0 fa nk oo be ho)), (a 0, .inl (0, 740, .inl (nF bt))), ((a 4), .inr (7, fSta y p s)), (y, .inr (9, fYard ay (ysN D.1 D.2.1))), (ay 3, .inl (0, 12, .inl (nF D.2.2.2.2.1))), ((a 10), .inr (5, fRun au (nF ru.1) yu)), (au 1, .inl (0, 12, .inl (nF (ru.2 1)))), (au 2, .inl (0, 12, .inl (nF (ru.2 2)))), (au 3, .inl (0, 12, .inl (nF (ru.2 3)))), (au 4, .inl (0, 12, .inl (nF (ru.2 4)))), (q, .inl (0, (pMn bt sz (D.1 0) 1 12), .inl (nF (nCl bt (fun _ => 0) (pMn bt sz (D.1 0) 1 12)))))]) [6, 7, 8, 9, 0, 1, 2, 3, 4, 5, 10] rfl (by decide) ?_
  refine zs_astore_n (lv' := [(2, .ref q), (0, .ref z), (1, .int x)]) dX12_running_7 (Nat.le_of_ble_eq_true rfl) rfl rfl ?_
  refine zs_aload_n dX12_running_8 rfl rfl ?_
  refine zs_alen (v := (nI (pMn bt sz (D.1 0) 1 12))) 10 dX12_running_9 rfl (by decide) rfl ?_
  refine zs_if_eq (tgt := 20) dX12_running_10 (by decide) (fun c_1 => ?_) (fun c_1 => ?_)
  · have c_1 : (pMn bt sz (D.1 0) 1 12) = 0 := by have hc := c_1; rw [show (0 : Int32) = nI 0 from rfl] at hc; rw [nI_eq' (by omega) (by omega)] at hc; exact hc
    refine zs_iconst (v := (-1)) dX12_running_20 (by decide) ?_
    refine zs_K (K' := [(z, .inr (10, fPR a 0 fa nk oo be ho)), (a 0, .inl (0, 740, .inl (nF bt))), ((a 4), .inr (7, fSta y p s)), (y, .inr (9, fYard ay (ysN D.1 D.2.1))), (ay 3, .inl (0, 12, .inl (nF D.2.2.2.2.1))), ((a 10), .inr (5, fRun au (nF ru.1) yu)), (au 1, .inl (0, 12, .inl (nF (ru.2 1)))), (au 2, .inl (0, 12, .inl (nF (ru.2 2)))), (au 3, .inl (0, 12, .inl (nF (ru.2 3)))), (au 4, .inl (0, 12, .inl (nF (ru.2 4))))]) [0, 1, 2, 3, 4, 5, 6, 7, 8, 9] rfl (by decide) ?_
    exact zs_iret dX12_running_21 rfl (Or.inl ⟨Or.inl c_1, rfl, rfl⟩)
  · have c_1 : ¬ ((pMn bt sz (D.1 0) 1 12) = 0) := by have hc := c_1; rw [show (0 : Int32) = nI 0 from rfl] at hc; rw [nI_eq' (by omega) (by omega)] at hc; exact hc
    refine zs_iload_n dX12_running_13 rfl ?_
    refine zs_callS (M := mX12_ticksTold) (As := [.int x]) (st := []) (Kc := []) (Kr := [(z, .inr (10, fPR a 0 fa nk oo be ho)), (a 0, .inl (0, 740, .inl (nF bt))), ((a 4), .inr (7, fSta y p s)), (y, .inr (9, fYard ay (ysN D.1 D.2.1))), (ay 3, .inl (0, 12, .inl (nF D.2.2.2.2.1))), ((a 10), .inr (5, fRun au (nF ru.1) yu)), (au 1, .inl (0, 12, .inl (nF (ru.2 1)))), (au 2, .inl (0, 12, .inl (nF (ru.2 2)))), (au 3, .inl (0, 12, .inl (nF (ru.2 3)))), (au 4, .inl (0, 12, .inl (nF (ru.2 4)))), (q, .inl (0, (pMn bt sz (D.1 0) 1 12), .inl (nF (nCl bt (fun _ => 0) (pMn bt sz (D.1 0) 1 12)))))]) [] [0, 1, 2, 3, 4, 5, 6, 7, 8, 9, 10] dX12_running_14 zl_RX12_197 kX12_ticksTold rfl rfl rfl rfl rfl (by decide) (show dd - 1 + 1 ≤ dd by omega) (Nat.zero_le _) (Nat.zero_le _) (Nat.le_of_ble_eq_true rfl) (s_ticks l (dd - 1) x) (fun r K1 hr => ?_)
    obtain ⟨rfl, rfl⟩ := hr
    refine zs_K (K' := [(z, .inr (10, fPR a 0 fa nk oo be ho)), (a 0, .inl (0, 740, .inl (nF bt))), ((a 4), .inr (7, fSta y p s)), (y, .inr (9, fYard ay (ysN D.1 D.2.1))), (ay 3, .inl (0, 12, .inl (nF D.2.2.2.2.1))), ((a 10), .inr (5, fRun au (nF ru.1) yu)), (au 1, .inl (0, 12, .inl (nF (ru.2 1)))), (au 2, .inl (0, 12, .inl (nF (ru.2 2)))), (au 3, .inl (0, 12, .inl (nF (ru.2 3)))), (au 4, .inl (0, 12, .inl (nF (ru.2 4)))), (q, .inl (0, (pMn bt sz (D.1 0) 1 12), .inl (nF (nCl bt (fun _ => 0) (pMn bt sz (D.1 0) 1 12)))))]) [0, 1, 2, 3, 4, 5, 6, 7, 8, 9, 10] rfl (by decide) ?_
    refine zs_if_ne (tgt := 22) dX12_running_17 (by decide) (fun c_2 => ?_) (fun c_2 => ?_)
    · have c_2 : ¬ ((bN (tkT x)) = 0) := by have hc := c_2; rw [show (0 : Int32) = nI 0 from rfl] at hc; rw [nI_eq' (by omega) (by omega)] at hc; exact hc
      obtain ⟨k, hk, rfl⟩ := tkT_k (bN_e c_2)
      have hM := pMn_k c_1
      refine zs_aload_n dX12_running_22 rfl rfl ?_
      refine zs_aload_n dX12_running_23 rfl rfl ?_
      refine zs_aload_n dX12_running_24 rfl rfl ?_
      refine zs_alen (v := (nI (pMn bt sz (D.1 0) 1 12))) 10 dX12_running_25 rfl (by decide) rfl ?_
      refine zs_iload_n dX12_running_26 rfl ?_
      refine zs_callV (M := mX12_thrownRunning) (As := [.ref q, .int (nI (pMn bt sz (D.1 0) 1 12)), .int (nI k)]) (st := []) (Kc := [(z, .inr (10, fPR a 0 fa nk oo be ho)), ((a 4), .inr (7, fSta y p s)), (y, .inr (9, fYard ay (ysN D.1 D.2.1))), (ay 3, .inl (0, 12, .inl (nF D.2.2.2.2.1))), ((a 10), .inr (5, fRun au (nF ru.1) yu)), (au 1, .inl (0, 12, .inl (nF (ru.2 1)))), (au 2, .inl (0, 12, .inl (nF (ru.2 2)))), (au 3, .inl (0, 12, .inl (nF (ru.2 3)))), (au 4, .inl (0, 12, .inl (nF (ru.2 4)))), (q, .inl (0, (pMn bt sz (D.1 0) 1 12), .inl (nF (nCl bt (fun _ => 0) (pMn bt sz (D.1 0) 1 12)))))]) (Kr := [(a 0, .inl (0, 740, .inl (nF bt)))]) [0, 2, 3, 4, 5, 6, 7, 8, 9, 10] [1] 0 dX12_running_27 zl_RX12_269 kX12_thrownRunning rfl rfl rfl rfl rfl (by decide) rfl rfl (show dd - 1 + 1 ≤ dd by omega) (Nat.zero_le _) (Nat.zero_le _) (Nat.le_of_ble_eq_true rfl) (s_thrownRunning l (dd - 1) z a 0 fa nk oo be ho y p s (pMn bt sz (D.1 0) 1 12) ay au q D (nCl bt (fun _ => 0) (pMn bt sz (D.1 0) 1 12)) (pMn bt sz (D.1 0) 1 12) k yu ru (by omega) hD hM.2.1 (Nat.le_refl _) (by omega) (nCl_f hM.2.2.2.1) hk hI) (fun r K1 hr => ?_)
      obtain ⟨rfl, rfl⟩ := hr
      refine zs_K (K' := [(z, .inr (10, fPR a 0 fa nk oo be ho)), (a 0, .inl (0, 740, .inl (nF bt))), ((a 4), .inr (7, fSta y p s)), (y, .inr (9, fYard ay (ysN D.1 D.2.1))), (ay 3, .inl (0, 12, .inl (nF D.2.2.2.2.1))), ((a 10), .inr (5, fRun au (nF (rnB D (nCl bt (fun _ => 0) (pMn bt sz (D.1 0) 1 12)) (pMn bt sz (D.1 0) 1 12) k ru).1) (.ref y))), (au 1, .inl (0, 12, .inl (nF ((rnB D (nCl bt (fun _ => 0) (pMn bt sz (D.1 0) 1 12)) (pMn bt sz (D.1 0) 1 12) k ru).2 1)))), (au 2, .inl (0, 12, .inl (nF ((rnB D (nCl bt (fun _ => 0) (pMn bt sz (D.1 0) 1 12)) (pMn bt sz (D.1 0) 1 12) k ru).2 2)))), (au 3, .inl (0, 12, .inl (nF ((rnB D (nCl bt (fun _ => 0) (pMn bt sz (D.1 0) 1 12)) (pMn bt sz (D.1 0) 1 12) k ru).2 3)))), (au 4, .inl (0, 12, .inl (nF ((rnB D (nCl bt (fun _ => 0) (pMn bt sz (D.1 0) 1 12)) (pMn bt sz (D.1 0) 1 12) k ru).2 4)))), (q, .inl (0, (pMn bt sz (D.1 0) 1 12), .inl (nF (nCl bt (fun _ => 0) (pMn bt sz (D.1 0) 1 12)))))]) [1, 0, 2, 3, 4, 5, 6, 7, 8, 9, 10] rfl (by decide) ?_
      refine zs_K (K' := [(z, .inr (10, fPR a 0 fa nk oo be ho)), (a 0, .inl (0, 740, .inl (nF bt))), ((a 4), .inr (7, fSta y p s)), (y, .inr (9, fYard ay (ysN D.1 D.2.1))), (ay 3, .inl (0, 12, .inl (nF D.2.2.2.2.1))), ((a 10), .inr (5, fRun au (nF (rnB D (nCl bt (fun _ => 0) (pMn bt sz (D.1 0) 1 12)) (pMn bt sz (D.1 0) 1 12) k ru).1) (.ref y))), (au 1, .inl (0, 12, .inl (nF ((rnB D (nCl bt (fun _ => 0) (pMn bt sz (D.1 0) 1 12)) (pMn bt sz (D.1 0) 1 12) k ru).2 1)))), (au 2, .inl (0, 12, .inl (nF ((rnB D (nCl bt (fun _ => 0) (pMn bt sz (D.1 0) 1 12)) (pMn bt sz (D.1 0) 1 12) k ru).2 2)))), (au 3, .inl (0, 12, .inl (nF ((rnB D (nCl bt (fun _ => 0) (pMn bt sz (D.1 0) 1 12)) (pMn bt sz (D.1 0) 1 12) k ru).2 3)))), (au 4, .inl (0, 12, .inl (nF ((rnB D (nCl bt (fun _ => 0) (pMn bt sz (D.1 0) 1 12)) (pMn bt sz (D.1 0) 1 12) k ru).2 4))))]) [0, 1, 2, 3, 4, 5, 6, 7, 8, 9] rfl (by decide) ?_
      exact zs_iret dX12_running_30 rfl (Or.inr ⟨k, hk, rfl, c_1, rfl, rfl⟩)
    · have c_2 : (bN (tkT x)) = 0 := by have hc := c_2; rw [show (0 : Int32) = nI 0 from rfl] at hc; rw [nI_eq' (by omega) (by omega)] at hc; exact hc
      refine zs_iconst (v := (-1)) dX12_running_20 (by decide) ?_
      refine zs_K (K' := [(z, .inr (10, fPR a 0 fa nk oo be ho)), (a 0, .inl (0, 740, .inl (nF bt))), ((a 4), .inr (7, fSta y p s)), (y, .inr (9, fYard ay (ysN D.1 D.2.1))), (ay 3, .inl (0, 12, .inl (nF D.2.2.2.2.1))), ((a 10), .inr (5, fRun au (nF ru.1) yu)), (au 1, .inl (0, 12, .inl (nF (ru.2 1)))), (au 2, .inl (0, 12, .inl (nF (ru.2 2)))), (au 3, .inl (0, 12, .inl (nF (ru.2 3)))), (au 4, .inl (0, 12, .inl (nF (ru.2 4))))]) [0, 1, 2, 3, 4, 5, 6, 7, 8, 9] rfl (by decide) ?_
      exact zs_iret dX12_running_21 rfl (Or.inl ⟨Or.inr (bN_f0 c_2), rfl, rfl⟩)
theorem dX12_rowBy_0 : decode cX12_rowBy 0 = .ok (.aload_n 0, 1) := by decide +kernel
theorem dX12_rowBy_1 : decode cX12_rowBy 1 = .ok (.getfield 41, 3) := by decide +kernel
theorem dX12_rowBy_4 : decode cX12_rowBy 4 = .ok (.getfield 214, 3) := by decide +kernel
theorem dX12_rowBy_7 : decode cX12_rowBy 7 = .ok (.ifCond .ne 5, 3) := by decide +kernel
theorem dX12_rowBy_10 : decode cX12_rowBy 10 = .ok (.iconst (-1), 1) := by decide +kernel
theorem dX12_rowBy_11 : decode cX12_rowBy 11 = .ok (.ireturn, 1) := by decide +kernel
theorem dX12_rowBy_12 : decode cX12_rowBy 12 = .ok (.iload_n 1, 1) := by decide +kernel
theorem dX12_rowBy_13 : decode cX12_rowBy 13 = .ok (.tableswitch 103 0 5 #[39, 47, 55, 63, 71, 79], 39) := by decide +kernel
theorem dX12_rowBy_52 : decode cX12_rowBy 52 = .ok (.aload_n 0, 1) := by decide +kernel
theorem dX12_rowBy_53 : decode cX12_rowBy 53 = .ok (.getfield 41, 3) := by decide +kernel
theorem dX12_rowBy_56 : decode cX12_rowBy 56 = .ok (.invokevirtual 215, 3) := by decide +kernel
theorem dX12_rowBy_59 : decode cX12_rowBy 59 = .ok (.ireturn, 1) := by decide +kernel
theorem dX12_rowBy_60 : decode cX12_rowBy 60 = .ok (.aload_n 0, 1) := by decide +kernel
theorem dX12_rowBy_61 : decode cX12_rowBy 61 = .ok (.getfield 41, 3) := by decide +kernel
theorem dX12_rowBy_64 : decode cX12_rowBy 64 = .ok (.invokevirtual 219, 3) := by decide +kernel
theorem dX12_rowBy_67 : decode cX12_rowBy 67 = .ok (.ireturn, 1) := by decide +kernel
theorem dX12_rowBy_68 : decode cX12_rowBy 68 = .ok (.aload_n 0, 1) := by decide +kernel
theorem dX12_rowBy_69 : decode cX12_rowBy 69 = .ok (.getfield 41, 3) := by decide +kernel
theorem dX12_rowBy_72 : decode cX12_rowBy 72 = .ok (.getfield 222, 3) := by decide +kernel
theorem dX12_rowBy_75 : decode cX12_rowBy 75 = .ok (.ireturn, 1) := by decide +kernel
theorem dX12_rowBy_76 : decode cX12_rowBy 76 = .ok (.aload_n 0, 1) := by decide +kernel
theorem dX12_rowBy_77 : decode cX12_rowBy 77 = .ok (.getfield 41, 3) := by decide +kernel
theorem dX12_rowBy_80 : decode cX12_rowBy 80 = .ok (.getfield 225, 3) := by decide +kernel
theorem dX12_rowBy_83 : decode cX12_rowBy 83 = .ok (.ireturn, 1) := by decide +kernel
theorem dX12_rowBy_84 : decode cX12_rowBy 84 = .ok (.aload_n 0, 1) := by decide +kernel
theorem dX12_rowBy_85 : decode cX12_rowBy 85 = .ok (.getfield 41, 3) := by decide +kernel
theorem dX12_rowBy_88 : decode cX12_rowBy 88 = .ok (.getfield 228, 3) := by decide +kernel
theorem dX12_rowBy_91 : decode cX12_rowBy 91 = .ok (.ireturn, 1) := by decide +kernel
theorem dX12_rowBy_92 : decode cX12_rowBy 92 = .ok (.aload_n 0, 1) := by decide +kernel
theorem dX12_rowBy_93 : decode cX12_rowBy 93 = .ok (.getfield 41, 3) := by decide +kernel
theorem dX12_rowBy_96 : decode cX12_rowBy 96 = .ok (.getfield 222, 3) := by decide +kernel
theorem dX12_rowBy_99 : decode cX12_rowBy 99 = .ok (.aload_n 0, 1) := by decide +kernel
theorem dX12_rowBy_100 : decode cX12_rowBy 100 = .ok (.getfield 41, 3) := by decide +kernel
theorem dX12_rowBy_103 : decode cX12_rowBy 103 = .ok (.getfield 225, 3) := by decide +kernel
theorem dX12_rowBy_106 : decode cX12_rowBy 106 = .ok (.isub, 1) := by decide +kernel
theorem dX12_rowBy_107 : decode cX12_rowBy 107 = .ok (.aload_n 0, 1) := by decide +kernel
theorem dX12_rowBy_108 : decode cX12_rowBy 108 = .ok (.getfield 41, 3) := by decide +kernel
theorem dX12_rowBy_111 : decode cX12_rowBy 111 = .ok (.getfield 211, 3) := by decide +kernel
theorem dX12_rowBy_114 : decode cX12_rowBy 114 = .ok (.isub, 1) := by decide +kernel
theorem dX12_rowBy_115 : decode cX12_rowBy 115 = .ok (.ireturn, 1) := by decide +kernel
theorem dX12_rowBy_116 : decode cX12_rowBy 116 = .ok (.iconst (-1), 1) := by decide +kernel
theorem dX12_rowBy_117 : decode cX12_rowBy 117 = .ok (.ireturn, 1) := by decide +kernel
def rBy (s : zRs) (x : Int32) : Int32 := if s.1 1 = 0 then -1 else if x = nI 0 then nI (cHp (s.2 9) (s.1 1)).2 else if x = nI 1 then nI (cHp (s.2 9) (s.1 1)).1 else if x = nI 2 then nI (s.1 16) else if x = nI 3 then nI (s.1 17) else if x = nI 4 then nI (s.1 18) else if x = nI 5 then nI (s.1 16) - nI (s.1 17) - nI (s.1 15) else -1
set_option maxRecDepth 100000 in
theorem s_rowBy (l : Launch) (dd : Nat) (z : Nat) (a : Nat → Nat) (sz fa nk oo be ho : Nat) (ar : Nat → Nat) (yr : Value) (ro : zRs) (x : Int32) (hd : 2 ≤ dd) (hm12 : ro.1 1 ≤ 12) (h9 : ∀ p, p < 12 → ro.2 9 p ≤ 30) : zSp l mX12_rowBy dd 0 0 [.ref z, .int x] [(z, .inr (10, fPR a sz fa nk oo be ho)), ((a 8), .inr (4, fRow ar (nF ro.1) yr)), (ar 1, .inl (0, 12, .inl (nF (ro.2 1)))), (ar 2, .inl (0, 12, .inl (nF (ro.2 2)))), (ar 3, .inl (0, 12, .inl (nF (ro.2 3)))), (ar 4, .inl (0, 12, .inl (nF (ro.2 4)))), (ar 5, .inl (0, 12, .inl (nF (ro.2 5)))), (ar 6, .inl (0, 360, .inl (nF (ro.2 6)))), (ar 7, .inl (0, 12, .inl (nF (ro.2 7)))), (ar 8, .inl (0, 12, .inl (nF (ro.2 8)))), (ar 9, .inl (0, 12, .inl (nF (ro.2 9)))), (ar 10, .inl (0, 100, .inl (nF (ro.2 10))))] (fun r K' => r = some (.int (rBy ro x)) ∧ K' = [(z, .inr (10, fPR a sz fa nk oo be ho)), ((a 8), .inr (4, fRow ar (nF ro.1) yr)), (ar 1, .inl (0, 12, .inl (nF (ro.2 1)))), (ar 2, .inl (0, 12, .inl (nF (ro.2 2)))), (ar 3, .inl (0, 12, .inl (nF (ro.2 3)))), (ar 4, .inl (0, 12, .inl (nF (ro.2 4)))), (ar 5, .inl (0, 12, .inl (nF (ro.2 5)))), (ar 6, .inl (0, 360, .inl (nF (ro.2 6)))), (ar 7, .inl (0, 12, .inl (nF (ro.2 7)))), (ar 8, .inl (0, 12, .inl (nF (ro.2 8)))), (ar 9, .inl (0, 12, .inl (nF (ro.2 9)))), (ar 10, .inl (0, 100, .inl (nF (ro.2 10))))]) := by
  refine zSp.of (by decide) (Nat.le_of_ble_eq_true rfl) (fun h0 => ?_)
  show zS _ 0 0 0 [(0, .ref z), (1, .int x)] [] [(z, .inr (10, fPR a sz fa nk oo be ho)), ((a 8), .inr (4, fRow ar (nF ro.1) yr)), (ar 1, .inl (0, 12, .inl (nF (ro.2 1)))), (ar 2, .inl (0, 12, .inl (nF (ro.2 2)))), (ar 3, .inl (0, 12, .inl (nF (ro.2 3)))), (ar 4, .inl (0, 12, .inl (nF (ro.2 4)))), (ar 5, .inl (0, 12, .inl (nF (ro.2 5)))), (ar 6, .inl (0, 360, .inl (nF (ro.2 6)))), (ar 7, .inl (0, 12, .inl (nF (ro.2 7)))), (ar 8, .inl (0, 12, .inl (nF (ro.2 8)))), (ar 9, .inl (0, 12, .inl (nF (ro.2 9)))), (ar 10, .inl (0, 100, .inl (nF (ro.2 10))))]
  refine zs_aload_n dX12_rowBy_0 rfl rfl ?_
  refine zs_get 0 dX12_rowBy_1 zf_RX12_41 rfl (v := .ref (a 8)) rfl ?_
  refine zs_get 1 dX12_rowBy_4 zf_RX12_214 rfl (v := .int (nI (ro.1 1))) rfl ?_
  refine zs_if_ne (tgt := 12) dX12_rowBy_7 (by decide) (fun c_1 => ?_) (fun c_1 => ?_)
  · have c_1 : ¬ ((ro.1 1) = 0) := by have hc := c_1; rw [show (0 : Int32) = nI 0 from rfl] at hc; rw [nI_eq' (by omega) (by omega)] at hc; exact hc
    refine zs_iload_n dX12_rowBy_12 rfl ?_
    by_cases h13_0 : x = nI 0
    · refine zs_as (y := nI 0) h13_0 ?_
      refine zs_tableIn (off := 39) (tgt := 52) dX12_rowBy_13 (by decide) (by decide) rfl (by decide) ?_
      refine zs_aload_n dX12_rowBy_52 rfl rfl ?_
      refine zs_get 0 dX12_rowBy_53 zf_RX12_41 rfl (v := .ref (a 8)) rfl ?_
      refine zs_callV (M := mX5_heap) (As := []) (st := []) (Kc := [((a 8), .inr (4, fRow ar (nF ro.1) yr)), (ar 1, .inl (0, 12, .inl (nF (ro.2 1)))), (ar 2, .inl (0, 12, .inl (nF (ro.2 2)))), (ar 3, .inl (0, 12, .inl (nF (ro.2 3)))), (ar 4, .inl (0, 12, .inl (nF (ro.2 4)))), (ar 5, .inl (0, 12, .inl (nF (ro.2 5)))), (ar 6, .inl (0, 360, .inl (nF (ro.2 6)))), (ar 7, .inl (0, 12, .inl (nF (ro.2 7)))), (ar 8, .inl (0, 12, .inl (nF (ro.2 8)))), (ar 9, .inl (0, 12, .inl (nF (ro.2 9)))), (ar 10, .inl (0, 100, .inl (nF (ro.2 10))))]) (Kr := [(z, .inr (10, fPR a sz fa nk oo be ho))]) [1, 2, 3, 4, 5, 6, 7, 8, 9, 10, 11] [0] 0 dX12_rowBy_56 zl_RX12_215 kX5_heap rfl rfl rfl rfl rfl (by decide) rfl rfl (show dd - 1 + 1 ≤ dd by omega) (Nat.zero_le _) (Nat.zero_le _) (Nat.le_of_ble_eq_true rfl) (s_heap l (dd - 1) (a 8) ar yr ro (by omega) ⟨by omega, hm12⟩ h9) (fun r K1 hr => ?_)
      obtain ⟨rfl, rfl⟩ := hr
      refine zs_K (K' := [(z, .inr (10, fPR a sz fa nk oo be ho)), ((a 8), .inr (4, fRow ar (nF ro.1) yr)), (ar 1, .inl (0, 12, .inl (nF (ro.2 1)))), (ar 2, .inl (0, 12, .inl (nF (ro.2 2)))), (ar 3, .inl (0, 12, .inl (nF (ro.2 3)))), (ar 4, .inl (0, 12, .inl (nF (ro.2 4)))), (ar 5, .inl (0, 12, .inl (nF (ro.2 5)))), (ar 6, .inl (0, 360, .inl (nF (ro.2 6)))), (ar 7, .inl (0, 12, .inl (nF (ro.2 7)))), (ar 8, .inl (0, 12, .inl (nF (ro.2 8)))), (ar 9, .inl (0, 12, .inl (nF (ro.2 9)))), (ar 10, .inl (0, 100, .inl (nF (ro.2 10))))]) [0, 1, 2, 3, 4, 5, 6, 7, 8, 9, 10, 11] rfl (by decide) ?_
      exact zs_iret dX12_rowBy_59 rfl ⟨by rw [rBy, if_neg c_1, if_pos h13_0], rfl⟩
    by_cases h13_1 : x = nI 1
    · refine zs_as (y := nI 1) h13_1 ?_
      refine zs_tableIn (off := 47) (tgt := 60) dX12_rowBy_13 (by decide) (by decide) rfl (by decide) ?_
      refine zs_aload_n dX12_rowBy_60 rfl rfl ?_
      refine zs_get 0 dX12_rowBy_61 zf_RX12_41 rfl (v := .ref (a 8)) rfl ?_
      refine zs_callV (M := mX5_heapPlace) (As := []) (st := []) (Kc := [((a 8), .inr (4, fRow ar (nF ro.1) yr)), (ar 1, .inl (0, 12, .inl (nF (ro.2 1)))), (ar 2, .inl (0, 12, .inl (nF (ro.2 2)))), (ar 3, .inl (0, 12, .inl (nF (ro.2 3)))), (ar 4, .inl (0, 12, .inl (nF (ro.2 4)))), (ar 5, .inl (0, 12, .inl (nF (ro.2 5)))), (ar 6, .inl (0, 360, .inl (nF (ro.2 6)))), (ar 7, .inl (0, 12, .inl (nF (ro.2 7)))), (ar 8, .inl (0, 12, .inl (nF (ro.2 8)))), (ar 9, .inl (0, 12, .inl (nF (ro.2 9)))), (ar 10, .inl (0, 100, .inl (nF (ro.2 10))))]) (Kr := [(z, .inr (10, fPR a sz fa nk oo be ho))]) [1, 2, 3, 4, 5, 6, 7, 8, 9, 10, 11] [0] 0 dX12_rowBy_64 zl_RX12_219 kX5_heapPlace rfl rfl rfl rfl rfl (by decide) rfl rfl (show dd - 1 + 1 ≤ dd by omega) (Nat.zero_le _) (Nat.zero_le _) (Nat.le_of_ble_eq_true rfl) (s_heapPlace l (dd - 1) (a 8) ar yr ro ⟨by omega, hm12⟩ h9) (fun r K1 hr => ?_)
      obtain ⟨rfl, rfl⟩ := hr
      refine zs_K (K' := [(z, .inr (10, fPR a sz fa nk oo be ho)), ((a 8), .inr (4, fRow ar (nF ro.1) yr)), (ar 1, .inl (0, 12, .inl (nF (ro.2 1)))), (ar 2, .inl (0, 12, .inl (nF (ro.2 2)))), (ar 3, .inl (0, 12, .inl (nF (ro.2 3)))), (ar 4, .inl (0, 12, .inl (nF (ro.2 4)))), (ar 5, .inl (0, 12, .inl (nF (ro.2 5)))), (ar 6, .inl (0, 360, .inl (nF (ro.2 6)))), (ar 7, .inl (0, 12, .inl (nF (ro.2 7)))), (ar 8, .inl (0, 12, .inl (nF (ro.2 8)))), (ar 9, .inl (0, 12, .inl (nF (ro.2 9)))), (ar 10, .inl (0, 100, .inl (nF (ro.2 10))))]) [0, 1, 2, 3, 4, 5, 6, 7, 8, 9, 10, 11] rfl (by decide) ?_
      exact zs_iret dX12_rowBy_67 rfl ⟨by rw [rBy, if_neg c_1, if_neg h13_0, if_pos h13_1], rfl⟩
    by_cases h13_2 : x = nI 2
    · refine zs_as (y := nI 2) h13_2 ?_
      refine zs_tableIn (off := 55) (tgt := 68) dX12_rowBy_13 (by decide) (by decide) rfl (by decide) ?_
      refine zs_aload_n dX12_rowBy_68 rfl rfl ?_
      refine zs_get 0 dX12_rowBy_69 zf_RX12_41 rfl (v := .ref (a 8)) rfl ?_
      refine zs_get 1 dX12_rowBy_72 zf_RX12_222 rfl (v := .int (nI (ro.1 16))) rfl ?_
      exact zs_iret dX12_rowBy_75 rfl ⟨by rw [rBy, if_neg c_1, if_neg h13_0, if_neg h13_1, if_pos h13_2], rfl⟩
    by_cases h13_3 : x = nI 3
    · refine zs_as (y := nI 3) h13_3 ?_
      refine zs_tableIn (off := 63) (tgt := 76) dX12_rowBy_13 (by decide) (by decide) rfl (by decide) ?_
      refine zs_aload_n dX12_rowBy_76 rfl rfl ?_
      refine zs_get 0 dX12_rowBy_77 zf_RX12_41 rfl (v := .ref (a 8)) rfl ?_
      refine zs_get 1 dX12_rowBy_80 zf_RX12_225 rfl (v := .int (nI (ro.1 17))) rfl ?_
      exact zs_iret dX12_rowBy_83 rfl ⟨by rw [rBy, if_neg c_1, if_neg h13_0, if_neg h13_1, if_neg h13_2, if_pos h13_3], rfl⟩
    by_cases h13_4 : x = nI 4
    · refine zs_as (y := nI 4) h13_4 ?_
      refine zs_tableIn (off := 71) (tgt := 84) dX12_rowBy_13 (by decide) (by decide) rfl (by decide) ?_
      refine zs_aload_n dX12_rowBy_84 rfl rfl ?_
      refine zs_get 0 dX12_rowBy_85 zf_RX12_41 rfl (v := .ref (a 8)) rfl ?_
      refine zs_get 1 dX12_rowBy_88 zf_RX12_228 rfl (v := .int (nI (ro.1 18))) rfl ?_
      exact zs_iret dX12_rowBy_91 rfl ⟨by rw [rBy, if_neg c_1, if_neg h13_0, if_neg h13_1, if_neg h13_2, if_neg h13_3, if_pos h13_4], rfl⟩
    by_cases h13_5 : x = nI 5
    · refine zs_as (y := nI 5) h13_5 ?_
      refine zs_tableIn (off := 79) (tgt := 92) dX12_rowBy_13 (by decide) (by decide) rfl (by decide) ?_
      refine zs_aload_n dX12_rowBy_92 rfl rfl ?_
      refine zs_get 0 dX12_rowBy_93 zf_RX12_41 rfl (v := .ref (a 8)) rfl ?_
      refine zs_get 1 dX12_rowBy_96 zf_RX12_222 rfl (v := .int (nI (ro.1 16))) rfl ?_
      refine zs_aload_n dX12_rowBy_99 rfl rfl ?_
      refine zs_get 0 dX12_rowBy_100 zf_RX12_41 rfl (v := .ref (a 8)) rfl ?_
      refine zs_get 1 dX12_rowBy_103 zf_RX12_225 rfl (v := .int (nI (ro.1 17))) rfl ?_
      refine zs_isub dX12_rowBy_106 ?_
      refine zs_aload_n dX12_rowBy_107 rfl rfl ?_
      refine zs_get 0 dX12_rowBy_108 zf_RX12_41 rfl (v := .ref (a 8)) rfl ?_
      refine zs_get 1 dX12_rowBy_111 zf_RX12_211 rfl (v := .int (nI (ro.1 15))) rfl ?_
      refine zs_isub dX12_rowBy_114 ?_
      exact zs_iret dX12_rowBy_115 rfl ⟨by rw [rBy, if_neg c_1, if_neg h13_0, if_neg h13_1, if_neg h13_2, if_neg h13_3, if_neg h13_4, if_pos h13_5], rfl⟩
    refine zs_tableOut (tgt := 116) dX12_rowBy_13 (by have q0 := zi_nk (k := 0) (by decide) h13_0; have q1 := zi_nk (k := 1) (by decide) h13_1; have q2 := zi_nk (k := 2) (by decide) h13_2; have q3 := zi_nk (k := 3) (by decide) h13_3; have q4 := zi_nk (k := 4) (by decide) h13_4; have q5 := zi_nk (k := 5) (by decide) h13_5; omega) (by decide) ?_
    refine zs_iconst (v := (-1)) dX12_rowBy_116 (by decide) ?_
    exact zs_iret dX12_rowBy_117 rfl ⟨by rw [rBy, if_neg c_1, if_neg h13_0, if_neg h13_1, if_neg h13_2, if_neg h13_3, if_neg h13_4, if_neg h13_5], rfl⟩
  · have c_1 : (ro.1 1) = 0 := by have hc := c_1; rw [show (0 : Int32) = nI 0 from rfl] at hc; rw [nI_eq' (by omega) (by omega)] at hc; exact hc
    refine zs_iconst (v := (-1)) dX12_rowBy_10 (by decide) ?_
    exact zs_iret dX12_rowBy_11 rfl ⟨by rw [rBy, if_pos c_1], rfl⟩
theorem dX12_done_0 : decode cX12_done 0 = .ok (.iload_n 1, 1) := by decide +kernel
theorem dX12_done_1 : decode cX12_done 1 = .ok (.ifCond .lt 14, 3) := by decide +kernel
theorem dX12_done_4 : decode cX12_done 4 = .ok (.iload_n 1, 1) := by decide +kernel
theorem dX12_done_5 : decode cX12_done 5 = .ok (.aload_n 0, 1) := by decide +kernel
theorem dX12_done_6 : decode cX12_done 6 = .ok (.getfield 41, 3) := by decide +kernel
theorem dX12_done_9 : decode cX12_done 9 = .ok (.getfield 214, 3) := by decide +kernel
theorem dX12_done_12 : decode cX12_done 12 = .ok (.if_icmp .lt 5, 3) := by decide +kernel
theorem dX12_done_15 : decode cX12_done 15 = .ok (.iconst (-1), 1) := by decide +kernel
theorem dX12_done_16 : decode cX12_done 16 = .ok (.ireturn, 1) := by decide +kernel
theorem dX12_done_17 : decode cX12_done 17 = .ok (.aload_n 0, 1) := by decide +kernel
theorem dX12_done_18 : decode cX12_done 18 = .ok (.getfield 41, 3) := by decide +kernel
theorem dX12_done_21 : decode cX12_done 21 = .ok (.getfield 231, 3) := by decide +kernel
theorem dX12_done_24 : decode cX12_done 24 = .ok (.iload_n 1, 1) := by decide +kernel
theorem dX12_done_25 : decode cX12_done 25 = .ok (.iaload, 1) := by decide +kernel
theorem dX12_done_26 : decode cX12_done 26 = .ok (.ireturn, 1) := by decide +kernel
def rDn (s : zRs) (x : Int32) : Int32 := if x < 0 then -1 else if x < nI (s.1 1) then nI (s.2 5 x.toNatClampNeg) else -1
set_option maxRecDepth 100000 in
theorem s_done (l : Launch) (dd : Nat) (z : Nat) (a : Nat → Nat) (sz fa nk oo be ho : Nat) (ar : Nat → Nat) (yr : Value) (ro : zRs) (x : Int32) (hm12 : ro.1 1 ≤ 12) : zSp l mX12_done dd 0 0 [.ref z, .int x] [(z, .inr (10, fPR a sz fa nk oo be ho)), ((a 8), .inr (4, fRow ar (nF ro.1) yr)), (ar 1, .inl (0, 12, .inl (nF (ro.2 1)))), (ar 2, .inl (0, 12, .inl (nF (ro.2 2)))), (ar 3, .inl (0, 12, .inl (nF (ro.2 3)))), (ar 4, .inl (0, 12, .inl (nF (ro.2 4)))), (ar 5, .inl (0, 12, .inl (nF (ro.2 5)))), (ar 6, .inl (0, 360, .inl (nF (ro.2 6)))), (ar 7, .inl (0, 12, .inl (nF (ro.2 7)))), (ar 8, .inl (0, 12, .inl (nF (ro.2 8)))), (ar 9, .inl (0, 12, .inl (nF (ro.2 9)))), (ar 10, .inl (0, 100, .inl (nF (ro.2 10))))] (fun r K' => r = some (.int (rDn ro x)) ∧ K' = [(z, .inr (10, fPR a sz fa nk oo be ho)), ((a 8), .inr (4, fRow ar (nF ro.1) yr)), (ar 1, .inl (0, 12, .inl (nF (ro.2 1)))), (ar 2, .inl (0, 12, .inl (nF (ro.2 2)))), (ar 3, .inl (0, 12, .inl (nF (ro.2 3)))), (ar 4, .inl (0, 12, .inl (nF (ro.2 4)))), (ar 5, .inl (0, 12, .inl (nF (ro.2 5)))), (ar 6, .inl (0, 360, .inl (nF (ro.2 6)))), (ar 7, .inl (0, 12, .inl (nF (ro.2 7)))), (ar 8, .inl (0, 12, .inl (nF (ro.2 8)))), (ar 9, .inl (0, 12, .inl (nF (ro.2 9)))), (ar 10, .inl (0, 100, .inl (nF (ro.2 10))))]) := by
  refine zSp.of (by decide) (Nat.le_of_ble_eq_true rfl) (fun h0 => ?_)
  show zS _ 0 0 0 [(0, .ref z), (1, .int x)] [] [(z, .inr (10, fPR a sz fa nk oo be ho)), ((a 8), .inr (4, fRow ar (nF ro.1) yr)), (ar 1, .inl (0, 12, .inl (nF (ro.2 1)))), (ar 2, .inl (0, 12, .inl (nF (ro.2 2)))), (ar 3, .inl (0, 12, .inl (nF (ro.2 3)))), (ar 4, .inl (0, 12, .inl (nF (ro.2 4)))), (ar 5, .inl (0, 12, .inl (nF (ro.2 5)))), (ar 6, .inl (0, 360, .inl (nF (ro.2 6)))), (ar 7, .inl (0, 12, .inl (nF (ro.2 7)))), (ar 8, .inl (0, 12, .inl (nF (ro.2 8)))), (ar 9, .inl (0, 12, .inl (nF (ro.2 9)))), (ar 10, .inl (0, 100, .inl (nF (ro.2 10))))]
  refine zs_iload_n dX12_done_0 rfl ?_
  refine zs_if_lt (tgt := 15) dX12_done_1 (by decide) (fun c_1 => ?_) (fun c_1 => ?_)
  · refine zs_iconst (v := (-1)) dX12_done_15 (by decide) ?_
    exact zs_iret dX12_done_16 rfl ⟨by rw [rDn, if_pos c_1] <;> (try rw [nI_c (by omega)]), rfl⟩
  · refine zs_iload_n dX12_done_4 rfl ?_
    refine zs_aload_n dX12_done_5 rfl rfl ?_
    refine zs_get 0 dX12_done_6 zf_RX12_41 rfl (v := .ref (a 8)) rfl ?_
    refine zs_get 1 dX12_done_9 zf_RX12_214 rfl (v := .int (nI (ro.1 1))) rfl ?_
    refine zs_icmp_lt (tgt := 17) dX12_done_12 (by decide) (fun c_2 => ?_) (fun c_2 => ?_)
    · obtain ⟨k, hk, rfl⟩ := zi_nn c_1
      have hkm : k < ro.1 1 := by rw [nI_lt' (by omega) (by omega)] at c_2; exact c_2
      refine zs_aload_n dX12_done_17 rfl rfl ?_
      refine zs_get 0 dX12_done_18 zf_RX12_41 rfl (v := .ref (a 8)) rfl ?_
      refine zs_get 1 dX12_done_21 zf_RX12_231 rfl (v := .ref (ar 5)) rfl ?_
      refine zs_iload_n dX12_done_24 rfl ?_
      refine zs_iald 6 dX12_done_25 rfl (vp_in_nI (by omega) (by omega)) ?_
      refine zs_as (y := nI ((ro.2 5) k)) (by rw [nI_c (n := k) (by omega)]; rfl) ?_
      exact zs_iret dX12_done_26 rfl ⟨by rw [rDn, if_neg c_1, if_pos c_2] <;> (try rw [nI_c (by omega)]), rfl⟩
    · refine zs_iconst (v := (-1)) dX12_done_15 (by decide) ?_
      exact zs_iret dX12_done_16 rfl ⟨by rw [rDn, if_neg c_1, if_neg c_2] <;> (try rw [nI_c (by omega)]), rfl⟩
theorem dX12_count_0 : decode cX12_count 0 = .ok (.iload_n 1, 1) := by decide +kernel
theorem dX12_count_1 : decode cX12_count 1 = .ok (.tableswitch 114 0 6 #[43, 54, 65, 76, 87, 98, 103], 43) := by decide +kernel
theorem dX12_count_44 : decode cX12_count 44 = .ok (.aload_n 0, 1) := by decide +kernel
theorem dX12_count_45 : decode cX12_count 45 = .ok (.getfield 23, 3) := by decide +kernel
theorem dX12_count_48 : decode cX12_count 48 = .ok (.getfield 96, 3) := by decide +kernel
theorem dX12_count_51 : decode cX12_count 51 = .ok (.getfield 100, 3) := by decide +kernel
theorem dX12_count_54 : decode cX12_count 54 = .ok (.ireturn, 1) := by decide +kernel
theorem dX12_count_55 : decode cX12_count 55 = .ok (.aload_n 0, 1) := by decide +kernel
theorem dX12_count_56 : decode cX12_count 56 = .ok (.getfield 23, 3) := by decide +kernel
theorem dX12_count_59 : decode cX12_count 59 = .ok (.getfield 96, 3) := by decide +kernel
theorem dX12_count_62 : decode cX12_count 62 = .ok (.getfield 175, 3) := by decide +kernel
theorem dX12_count_65 : decode cX12_count 65 = .ok (.ireturn, 1) := by decide +kernel
theorem dX12_count_66 : decode cX12_count 66 = .ok (.aload_n 0, 1) := by decide +kernel
theorem dX12_count_67 : decode cX12_count 67 = .ok (.getfield 23, 3) := by decide +kernel
theorem dX12_count_70 : decode cX12_count 70 = .ok (.getfield 96, 3) := by decide +kernel
theorem dX12_count_73 : decode cX12_count 73 = .ok (.getfield 178, 3) := by decide +kernel
theorem dX12_count_76 : decode cX12_count 76 = .ok (.ireturn, 1) := by decide +kernel
theorem dX12_count_77 : decode cX12_count 77 = .ok (.aload_n 0, 1) := by decide +kernel
theorem dX12_count_78 : decode cX12_count 78 = .ok (.getfield 23, 3) := by decide +kernel
theorem dX12_count_81 : decode cX12_count 81 = .ok (.getfield 96, 3) := by decide +kernel
theorem dX12_count_84 : decode cX12_count 84 = .ok (.getfield 187, 3) := by decide +kernel
theorem dX12_count_87 : decode cX12_count 87 = .ok (.ireturn, 1) := by decide +kernel
theorem dX12_count_88 : decode cX12_count 88 = .ok (.aload_n 0, 1) := by decide +kernel
theorem dX12_count_89 : decode cX12_count 89 = .ok (.getfield 23, 3) := by decide +kernel
theorem dX12_count_92 : decode cX12_count 92 = .ok (.getfield 127, 3) := by decide +kernel
theorem dX12_count_95 : decode cX12_count 95 = .ok (.getfield 150, 3) := by decide +kernel
theorem dX12_count_98 : decode cX12_count 98 = .ok (.ireturn, 1) := by decide +kernel
theorem dX12_count_99 : decode cX12_count 99 = .ok (.aload_n 0, 1) := by decide +kernel
theorem dX12_count_100 : decode cX12_count 100 = .ok (.getfield 88, 3) := by decide +kernel
theorem dX12_count_103 : decode cX12_count 103 = .ok (.ireturn, 1) := by decide +kernel
theorem dX12_count_104 : decode cX12_count 104 = .ok (.aload_n 0, 1) := by decide +kernel
theorem dX12_count_105 : decode cX12_count 105 = .ok (.getfield 23, 3) := by decide +kernel
theorem dX12_count_108 : decode cX12_count 108 = .ok (.getfield 96, 3) := by decide +kernel
theorem dX12_count_111 : decode cX12_count 111 = .ok (.getfield 190, 3) := by decide +kernel
theorem dX12_count_114 : decode cX12_count 114 = .ok (.ireturn, 1) := by decide +kernel
theorem dX12_count_115 : decode cX12_count 115 = .ok (.iconst (-1), 1) := by decide +kernel
theorem dX12_count_116 : decode cX12_count 116 = .ok (.ireturn, 1) := by decide +kernel
def pCou (D : zYd) (th sz : Nat) (x : Int32) : Int32 := if x = nI 0 then nI (D.1 0) else if x = nI 1 then nI (D.1 14) else if x = nI 2 then nI (D.1 15) else if x = nI 3 then nI (D.1 6) else if x = nI 4 then nI th else if x = nI 5 then nI sz else if x = nI 6 then nI (D.1 5) else -1
set_option maxRecDepth 100000 in
theorem s_count (l : Launch) (dd : Nat) (z : Nat) (a : Nat → Nat) (sz fa nk oo be ho : Nat) (y p s : Nat) (ay ap : Nat → Nat) (D : zYd) (P : zPl) (x : Int32)  : zSp l mX12_count dd 0 0 [.ref z, .int x] [(z, .inr (10, fPR a sz fa nk oo be ho)), ((a 4), .inr (7, fSta y p s)), (y, .inr (9, fYard ay (ysN D.1 D.2.1))), (p, .inr (3, fPlan ap P.1))] (fun r K' => r = some (.int (pCou D P.1 sz x)) ∧ K' = [(z, .inr (10, fPR a sz fa nk oo be ho)), ((a 4), .inr (7, fSta y p s)), (y, .inr (9, fYard ay (ysN D.1 D.2.1))), (p, .inr (3, fPlan ap P.1))]) := by
  refine zSp.of (by decide) (Nat.le_of_ble_eq_true rfl) (fun h0 => ?_)
  show zS _ 0 0 0 [(0, .ref z), (1, .int x)] [] [(z, .inr (10, fPR a sz fa nk oo be ho)), ((a 4), .inr (7, fSta y p s)), (y, .inr (9, fYard ay (ysN D.1 D.2.1))), (p, .inr (3, fPlan ap P.1))]
  refine zs_iload_n dX12_count_0 rfl ?_
  by_cases h1_0 : x = nI 0
  · refine zs_as (y := nI 0) h1_0 ?_
    refine zs_tableIn (off := 43) (tgt := 44) dX12_count_1 (by decide) (by decide) rfl (by decide) ?_
    refine zs_aload_n dX12_count_44 rfl rfl ?_
    refine zs_get 0 dX12_count_45 zf_RX12_23 rfl (v := .ref (a 4)) rfl ?_
    refine zs_get 1 dX12_count_48 zf_RX12_96 rfl (v := .ref y) rfl ?_
    refine zs_get 2 dX12_count_51 zf_RX12_100 rfl (v := .int (nI (D.1 0))) rfl ?_
    exact zs_iret dX12_count_54 rfl ⟨by rw [pCou, if_pos h1_0], rfl⟩
  by_cases h1_1 : x = nI 1
  · refine zs_as (y := nI 1) h1_1 ?_
    refine zs_tableIn (off := 54) (tgt := 55) dX12_count_1 (by decide) (by decide) rfl (by decide) ?_
    refine zs_aload_n dX12_count_55 rfl rfl ?_
    refine zs_get 0 dX12_count_56 zf_RX12_23 rfl (v := .ref (a 4)) rfl ?_
    refine zs_get 1 dX12_count_59 zf_RX12_96 rfl (v := .ref y) rfl ?_
    refine zs_get 2 dX12_count_62 zf_RX12_175 rfl (v := .int (nI (D.1 14))) rfl ?_
    exact zs_iret dX12_count_65 rfl ⟨by rw [pCou, if_neg h1_0, if_pos h1_1], rfl⟩
  by_cases h1_2 : x = nI 2
  · refine zs_as (y := nI 2) h1_2 ?_
    refine zs_tableIn (off := 65) (tgt := 66) dX12_count_1 (by decide) (by decide) rfl (by decide) ?_
    refine zs_aload_n dX12_count_66 rfl rfl ?_
    refine zs_get 0 dX12_count_67 zf_RX12_23 rfl (v := .ref (a 4)) rfl ?_
    refine zs_get 1 dX12_count_70 zf_RX12_96 rfl (v := .ref y) rfl ?_
    refine zs_get 2 dX12_count_73 zf_RX12_178 rfl (v := .int (nI (D.1 15))) rfl ?_
    exact zs_iret dX12_count_76 rfl ⟨by rw [pCou, if_neg h1_0, if_neg h1_1, if_pos h1_2], rfl⟩
  by_cases h1_3 : x = nI 3
  · refine zs_as (y := nI 3) h1_3 ?_
    refine zs_tableIn (off := 76) (tgt := 77) dX12_count_1 (by decide) (by decide) rfl (by decide) ?_
    refine zs_aload_n dX12_count_77 rfl rfl ?_
    refine zs_get 0 dX12_count_78 zf_RX12_23 rfl (v := .ref (a 4)) rfl ?_
    refine zs_get 1 dX12_count_81 zf_RX12_96 rfl (v := .ref y) rfl ?_
    refine zs_get 2 dX12_count_84 zf_RX12_187 rfl (v := .int (nI (D.1 6))) rfl ?_
    exact zs_iret dX12_count_87 rfl ⟨by rw [pCou, if_neg h1_0, if_neg h1_1, if_neg h1_2, if_pos h1_3], rfl⟩
  by_cases h1_4 : x = nI 4
  · refine zs_as (y := nI 4) h1_4 ?_
    refine zs_tableIn (off := 87) (tgt := 88) dX12_count_1 (by decide) (by decide) rfl (by decide) ?_
    refine zs_aload_n dX12_count_88 rfl rfl ?_
    refine zs_get 0 dX12_count_89 zf_RX12_23 rfl (v := .ref (a 4)) rfl ?_
    refine zs_get 1 dX12_count_92 zf_RX12_127 rfl (v := .ref p) rfl ?_
    refine zs_get 3 dX12_count_95 zf_RX12_150 rfl (v := .int (nI P.1)) rfl ?_
    exact zs_iret dX12_count_98 rfl ⟨by rw [pCou, if_neg h1_0, if_neg h1_1, if_neg h1_2, if_neg h1_3, if_pos h1_4], rfl⟩
  by_cases h1_5 : x = nI 5
  · refine zs_as (y := nI 5) h1_5 ?_
    refine zs_tableIn (off := 98) (tgt := 99) dX12_count_1 (by decide) (by decide) rfl (by decide) ?_
    refine zs_aload_n dX12_count_99 rfl rfl ?_
    refine zs_get 0 dX12_count_100 zf_RX12_88 rfl (v := .int (nI sz)) rfl ?_
    exact zs_iret dX12_count_103 rfl ⟨by rw [pCou, if_neg h1_0, if_neg h1_1, if_neg h1_2, if_neg h1_3, if_neg h1_4, if_pos h1_5], rfl⟩
  by_cases h1_6 : x = nI 6
  · refine zs_as (y := nI 6) h1_6 ?_
    refine zs_tableIn (off := 103) (tgt := 104) dX12_count_1 (by decide) (by decide) rfl (by decide) ?_
    refine zs_aload_n dX12_count_104 rfl rfl ?_
    refine zs_get 0 dX12_count_105 zf_RX12_23 rfl (v := .ref (a 4)) rfl ?_
    refine zs_get 1 dX12_count_108 zf_RX12_96 rfl (v := .ref y) rfl ?_
    refine zs_get 2 dX12_count_111 zf_RX12_190 rfl (v := .int (nI (D.1 5))) rfl ?_
    exact zs_iret dX12_count_114 rfl ⟨by rw [pCou, if_neg h1_0, if_neg h1_1, if_neg h1_2, if_neg h1_3, if_neg h1_4, if_neg h1_5, if_pos h1_6], rfl⟩
  refine zs_tableOut (tgt := 115) dX12_count_1 (by have q0 := zi_nk (k := 0) (by decide) h1_0; have q1 := zi_nk (k := 1) (by decide) h1_1; have q2 := zi_nk (k := 2) (by decide) h1_2; have q3 := zi_nk (k := 3) (by decide) h1_3; have q4 := zi_nk (k := 4) (by decide) h1_4; have q5 := zi_nk (k := 5) (by decide) h1_5; have q6 := zi_nk (k := 6) (by decide) h1_6; omega) (by decide) ?_
  refine zs_iconst (v := (-1)) dX12_count_115 (by decide) ?_
  exact zs_iret dX12_count_116 rfl ⟨by rw [pCou, if_neg h1_0, if_neg h1_1, if_neg h1_2, if_neg h1_3, if_neg h1_4, if_neg h1_5, if_neg h1_6], rfl⟩
theorem dX12_entry_0 : decode cX12_entry 0 = .ok (.iload_n 1, 1) := by decide +kernel
theorem dX12_entry_1 : decode cX12_entry 1 = .ok (.ifCond .lt 15, 3) := by decide +kernel
theorem dX12_entry_4 : decode cX12_entry 4 = .ok (.iload_n 1, 1) := by decide +kernel
theorem dX12_entry_5 : decode cX12_entry 5 = .ok (.aload_n 0, 1) := by decide +kernel
theorem dX12_entry_6 : decode cX12_entry 6 = .ok (.arraylength, 1) := by decide +kernel
theorem dX12_entry_7 : decode cX12_entry 7 = .ok (.if_icmp .ge 9, 3) := by decide +kernel
theorem dX12_entry_10 : decode cX12_entry 10 = .ok (.aload_n 0, 1) := by decide +kernel
theorem dX12_entry_11 : decode cX12_entry 11 = .ok (.iload_n 1, 1) := by decide +kernel
theorem dX12_entry_12 : decode cX12_entry 12 = .ok (.iaload, 1) := by decide +kernel
theorem dX12_entry_13 : decode cX12_entry 13 = .ok (.goto 4, 3) := by decide +kernel
theorem dX12_entry_16 : decode cX12_entry 16 = .ok (.iconst (-1), 1) := by decide +kernel
theorem dX12_entry_17 : decode cX12_entry 17 = .ok (.ireturn, 1) := by decide +kernel
def pEy (f : Nat → Nat) (n : Nat) (x : Int32) : Int32 := if x < 0 then -1 else if x < nI n then nI (f x.toNatClampNeg) else -1
set_option maxRecDepth 100000 in
theorem s_entry (l : Launch) (dd : Nat) (q n : Nat) (f : Nat → Nat) (x : Int32) (hn : n ≤ 1000) : zSp l mX12_entry dd 0 0 [.ref q, .int x] [(q, .inl (0, n, .inl (nF f)))] (fun r K' => r = some (.int (pEy f n x)) ∧ K' = [(q, .inl (0, n, .inl (nF f)))]) := by
  refine zSp.of (by decide) (Nat.le_of_ble_eq_true rfl) (fun h0 => ?_)
  show zS _ 0 0 0 [(0, .ref q), (1, .int x)] [] [(q, .inl (0, n, .inl (nF f)))]
  refine zs_iload_n dX12_entry_0 rfl ?_
  refine zs_if_lt (tgt := 16) dX12_entry_1 (by decide) (fun c_1 => ?_) (fun c_1 => ?_)
  · refine zs_iconst (v := (-1)) dX12_entry_16 (by decide) ?_
    exact zs_iret dX12_entry_17 rfl ⟨by rw [pEy, if_pos c_1] <;> (try rw [nI_c (by omega)]), rfl⟩
  · refine zs_iload_n dX12_entry_4 rfl ?_
    refine zs_aload_n dX12_entry_5 rfl rfl ?_
    refine zs_alen (v := (nI n)) 0 dX12_entry_6 rfl (by decide) rfl ?_
    refine zs_icmp_ge (tgt := 16) dX12_entry_7 (by decide) (fun c_2 => ?_) (fun c_2 => ?_)
    · refine zs_iconst (v := (-1)) dX12_entry_16 (by decide) ?_
      exact zs_iret dX12_entry_17 rfl ⟨by rw [pEy, if_neg c_1, if_neg (Int32.not_lt.mpr c_2)] <;> (try rw [nI_c (by omega)]), rfl⟩
    · obtain ⟨k, hk, rfl⟩ := zi_nn c_1
      have hkm : k < n := by have h := Int32.not_le.mp c_2; rw [nI_lt' (by omega) (by omega)] at h; exact h
      refine zs_aload_n dX12_entry_10 rfl rfl ?_
      refine zs_iload_n dX12_entry_11 rfl ?_
      refine zs_iald 0 dX12_entry_12 rfl (vp_in_nI (by omega) (by omega)) ?_
      refine zs_as (y := nI (f k)) (by rw [nI_c (n := k) (by omega)]; rfl) ?_
      refine zs_goto (tgt := 17) dX12_entry_13 (by decide) ?_
      exact zs_iret dX12_entry_17 rfl ⟨by rw [pEy, if_neg c_1, if_pos (Int32.not_le.mp c_2)] <;> (try rw [nI_c (by omega)]), rfl⟩
theorem dX12_bestAt_0 : decode cX12_bestAt 0 = .ok (.aload_n 0, 1) := by decide +kernel
theorem dX12_bestAt_1 : decode cX12_bestAt 1 = .ok (.getfield 79, 3) := by decide +kernel
theorem dX12_bestAt_4 : decode cX12_bestAt 4 = .ok (.iload_n 1, 1) := by decide +kernel
theorem dX12_bestAt_5 : decode cX12_bestAt 5 = .ok (.invokestatic 265, 3) := by decide +kernel
theorem dX12_bestAt_8 : decode cX12_bestAt 8 = .ok (.ireturn, 1) := by decide +kernel
set_option maxRecDepth 100000 in
theorem s_bestAt (l : Launch) (dd : Nat) (z : Nat) (a : Nat → Nat) (sz fa nk oo be ho : Nat) (n : Nat) (f : Nat → Nat) (x : Int32) (hd : 1 ≤ dd) (hn : n ≤ 1000) : zSp l mX12_bestAt dd 0 0 [.ref z, .int x] [(z, .inr (10, fPR a sz fa nk oo be ho)), (oo, .inl (0, n, .inl (nF f)))] (fun r K' => r = some (.int (pEy f n x)) ∧ K' = [(z, .inr (10, fPR a sz fa nk oo be ho)), (oo, .inl (0, n, .inl (nF f)))]) := by
  refine zSp.of (by decide) (Nat.le_of_ble_eq_true rfl) (fun h0 => ?_)
  show zS _ 0 0 0 [(0, .ref z), (1, .int x)] [] [(z, .inr (10, fPR a sz fa nk oo be ho)), (oo, .inl (0, n, .inl (nF f)))]
  refine zs_aload_n dX12_bestAt_0 rfl rfl ?_
  refine zs_get 0 dX12_bestAt_1 zf_RX12_79 rfl (v := .ref oo) rfl ?_
  refine zs_iload_n dX12_bestAt_4 rfl ?_
  refine zs_callS (M := mX12_entry) (As := [.ref oo, .int x]) (st := []) (Kc := [(oo, .inl (0, n, .inl (nF f)))]) (Kr := [(z, .inr (10, fPR a sz fa nk oo be ho))]) [1] [0] dX12_bestAt_5 zl_RX12_265 kX12_entry rfl rfl rfl rfl rfl (by decide) (show dd - 1 + 1 ≤ dd by omega) (Nat.zero_le _) (Nat.zero_le _) (Nat.le_of_ble_eq_true rfl) (s_entry l (dd - 1) oo n f x hn) (fun r K1 hr => ?_)
  obtain ⟨rfl, rfl⟩ := hr
  refine zs_K (K' := [(z, .inr (10, fPR a sz fa nk oo be ho)), (oo, .inl (0, n, .inl (nF f)))]) [0, 1] rfl (by decide) ?_
  exact zs_iret dX12_bestAt_8 rfl ⟨rfl, rfl⟩
theorem dX12_moreAt_0 : decode cX12_moreAt 0 = .ok (.aload_n 0, 1) := by decide +kernel
theorem dX12_moreAt_1 : decode cX12_moreAt 1 = .ok (.getfield 82, 3) := by decide +kernel
theorem dX12_moreAt_4 : decode cX12_moreAt 4 = .ok (.iload_n 1, 1) := by decide +kernel
theorem dX12_moreAt_5 : decode cX12_moreAt 5 = .ok (.invokestatic 265, 3) := by decide +kernel
theorem dX12_moreAt_8 : decode cX12_moreAt 8 = .ok (.ireturn, 1) := by decide +kernel
set_option maxRecDepth 100000 in
theorem s_moreAt (l : Launch) (dd : Nat) (z : Nat) (a : Nat → Nat) (sz fa nk oo be ho : Nat) (n : Nat) (f : Nat → Nat) (x : Int32) (hd : 1 ≤ dd) (hn : n ≤ 1000) : zSp l mX12_moreAt dd 0 0 [.ref z, .int x] [(z, .inr (10, fPR a sz fa nk oo be ho)), (be, .inl (0, n, .inl (nF f)))] (fun r K' => r = some (.int (pEy f n x)) ∧ K' = [(z, .inr (10, fPR a sz fa nk oo be ho)), (be, .inl (0, n, .inl (nF f)))]) := by
  refine zSp.of (by decide) (Nat.le_of_ble_eq_true rfl) (fun h0 => ?_)
  show zS _ 0 0 0 [(0, .ref z), (1, .int x)] [] [(z, .inr (10, fPR a sz fa nk oo be ho)), (be, .inl (0, n, .inl (nF f)))]
  refine zs_aload_n dX12_moreAt_0 rfl rfl ?_
  refine zs_get 0 dX12_moreAt_1 zf_RX12_82 rfl (v := .ref be) rfl ?_
  refine zs_iload_n dX12_moreAt_4 rfl ?_
  refine zs_callS (M := mX12_entry) (As := [.ref be, .int x]) (st := []) (Kc := [(be, .inl (0, n, .inl (nF f)))]) (Kr := [(z, .inr (10, fPR a sz fa nk oo be ho))]) [1] [0] dX12_moreAt_5 zl_RX12_265 kX12_entry rfl rfl rfl rfl rfl (by decide) (show dd - 1 + 1 ≤ dd by omega) (Nat.zero_le _) (Nat.zero_le _) (Nat.le_of_ble_eq_true rfl) (s_entry l (dd - 1) be n f x hn) (fun r K1 hr => ?_)
  obtain ⟨rfl, rfl⟩ := hr
  refine zs_K (K' := [(z, .inr (10, fPR a sz fa nk oo be ho)), (be, .inl (0, n, .inl (nF f)))]) [0, 1] rfl (by decide) ?_
  exact zs_iret dX12_moreAt_8 rfl ⟨rfl, rfl⟩
theorem dX12_hookAt_0 : decode cX12_hookAt 0 = .ok (.aload_n 0, 1) := by decide +kernel
theorem dX12_hookAt_1 : decode cX12_hookAt 1 = .ok (.getfield 85, 3) := by decide +kernel
theorem dX12_hookAt_4 : decode cX12_hookAt 4 = .ok (.iload_n 1, 1) := by decide +kernel
theorem dX12_hookAt_5 : decode cX12_hookAt 5 = .ok (.invokestatic 265, 3) := by decide +kernel
theorem dX12_hookAt_8 : decode cX12_hookAt 8 = .ok (.ireturn, 1) := by decide +kernel
set_option maxRecDepth 100000 in
theorem s_hookAt (l : Launch) (dd : Nat) (z : Nat) (a : Nat → Nat) (sz fa nk oo be ho : Nat) (n : Nat) (f : Nat → Nat) (x : Int32) (hd : 1 ≤ dd) (hn : n ≤ 1000) : zSp l mX12_hookAt dd 0 0 [.ref z, .int x] [(z, .inr (10, fPR a sz fa nk oo be ho)), (ho, .inl (0, n, .inl (nF f)))] (fun r K' => r = some (.int (pEy f n x)) ∧ K' = [(z, .inr (10, fPR a sz fa nk oo be ho)), (ho, .inl (0, n, .inl (nF f)))]) := by
  refine zSp.of (by decide) (Nat.le_of_ble_eq_true rfl) (fun h0 => ?_)
  show zS _ 0 0 0 [(0, .ref z), (1, .int x)] [] [(z, .inr (10, fPR a sz fa nk oo be ho)), (ho, .inl (0, n, .inl (nF f)))]
  refine zs_aload_n dX12_hookAt_0 rfl rfl ?_
  refine zs_get 0 dX12_hookAt_1 zf_RX12_85 rfl (v := .ref ho) rfl ?_
  refine zs_iload_n dX12_hookAt_4 rfl ?_
  refine zs_callS (M := mX12_entry) (As := [.ref ho, .int x]) (st := []) (Kc := [(ho, .inl (0, n, .inl (nF f)))]) (Kr := [(z, .inr (10, fPR a sz fa nk oo be ho))]) [1] [0] dX12_hookAt_5 zl_RX12_265 kX12_entry rfl rfl rfl rfl rfl (by decide) (show dd - 1 + 1 ≤ dd by omega) (Nat.zero_le _) (Nat.zero_le _) (Nat.le_of_ble_eq_true rfl) (s_entry l (dd - 1) ho n f x hn) (fun r K1 hr => ?_)
  obtain ⟨rfl, rfl⟩ := hr
  refine zs_K (K' := [(z, .inr (10, fPR a sz fa nk oo be ho)), (ho, .inl (0, n, .inl (nF f)))]) [0, 1] rfl (by decide) ?_
  exact zs_iret dX12_hookAt_8 rfl ⟨rfl, rfl⟩
theorem dX12_fault_0 : decode cX12_fault 0 = .ok (.aload_n 0, 1) := by decide +kernel
theorem dX12_fault_1 : decode cX12_fault 1 = .ok (.getfield 123, 3) := by decide +kernel
theorem dX12_fault_4 : decode cX12_fault 4 = .ok (.ireturn, 1) := by decide +kernel
set_option maxRecDepth 100000 in
theorem s_fault (l : Launch) (dd : Nat) (z : Nat) (a : Nat → Nat) (sz fa nk oo be ho : Nat)  : zSp l mX12_fault dd 0 0 [.ref z] [(z, .inr (10, fPR a sz fa nk oo be ho))] (fun r K' => r = some (.int (nI fa)) ∧ K' = [(z, .inr (10, fPR a sz fa nk oo be ho))]) := by
  refine zSp.of (by decide) (Nat.le_of_ble_eq_true rfl) (fun h0 => ?_)
  show zS _ 0 0 0 [(0, .ref z)] [] [(z, .inr (10, fPR a sz fa nk oo be ho))]
  refine zs_aload_n dX12_fault_0 rfl rfl ?_
  refine zs_get 0 dX12_fault_1 zf_RX12_123 rfl (v := .int (nI fa)) rfl ?_
  exact zs_iret dX12_fault_4 rfl ⟨rfl, rfl⟩
theorem dX12_periodOf_0 : decode cX12_periodOf 0 = .ok (.iconst 0, 1) := by decide +kernel
theorem dX12_periodOf_1 : decode cX12_periodOf 1 = .ok (.istore_n 2, 1) := by decide +kernel
theorem dX12_periodOf_2 : decode cX12_periodOf 2 = .ok (.iconst 0, 1) := by decide +kernel
theorem dX12_periodOf_3 : decode cX12_periodOf 3 = .ok (.istore_n 3, 1) := by decide +kernel
theorem dX12_periodOf_4 : decode cX12_periodOf 4 = .ok (.iload_n 3, 1) := by decide +kernel
theorem dX12_periodOf_5 : decode cX12_periodOf 5 = .ok (.aload_n 1, 1) := by decide +kernel
theorem dX12_periodOf_6 : decode cX12_periodOf 6 = .ok (.arraylength, 1) := by decide +kernel
theorem dX12_periodOf_7 : decode cX12_periodOf 7 = .ok (.if_icmp .ge 30, 3) := by decide +kernel
theorem dX12_periodOf_10 : decode cX12_periodOf 10 = .ok (.iload_n 2, 1) := by decide +kernel
theorem dX12_periodOf_11 : decode cX12_periodOf 11 = .ok (.aload_n 0, 1) := by decide +kernel
theorem dX12_periodOf_12 : decode cX12_periodOf 12 = .ok (.getfield 23, 3) := by decide +kernel
theorem dX12_periodOf_15 : decode cX12_periodOf 15 = .ok (.getfield 96, 3) := by decide +kernel
theorem dX12_periodOf_18 : decode cX12_periodOf 18 = .ok (.aload_n 1, 1) := by decide +kernel
theorem dX12_periodOf_19 : decode cX12_periodOf 19 = .ok (.iload_n 3, 1) := by decide +kernel
theorem dX12_periodOf_20 : decode cX12_periodOf 20 = .ok (.iaload, 1) := by decide +kernel
theorem dX12_periodOf_21 : decode cX12_periodOf 21 = .ok (.iload_n 3, 1) := by decide +kernel
theorem dX12_periodOf_22 : decode cX12_periodOf 22 = .ok (.aload_n 1, 1) := by decide +kernel
theorem dX12_periodOf_23 : decode cX12_periodOf 23 = .ok (.arraylength, 1) := by decide +kernel
theorem dX12_periodOf_24 : decode cX12_periodOf 24 = .ok (.invokevirtual 238, 3) := by decide +kernel
theorem dX12_periodOf_27 : decode cX12_periodOf 27 = .ok (.invokestatic 242, 3) := by decide +kernel
theorem dX12_periodOf_30 : decode cX12_periodOf 30 = .ok (.istore_n 2, 1) := by decide +kernel
theorem dX12_periodOf_31 : decode cX12_periodOf 31 = .ok (.iinc 3 1, 3) := by decide +kernel
theorem dX12_periodOf_34 : decode cX12_periodOf 34 = .ok (.goto (-30), 3) := by decide +kernel
theorem dX12_periodOf_37 : decode cX12_periodOf 37 = .ok (.iload_n 2, 1) := by decide +kernel
theorem dX12_periodOf_38 : decode cX12_periodOf 38 = .ok (.ireturn, 1) := by decide +kernel
/-- the longest time of the first k places -/
def pPd (D : zYd) (f : Nat → Nat) (n : Nat) : Nat → Nat
  | 0 => 0
  | k + 1 => max (pPd D f n k) (nTime D.1 D.2.2.2.1 (f k) k n)
theorem pPd_le {D : zYd} {f : Nat → Nat} {n : Nat} (hD : yI D) (hn : 2 ≤ n) : ∀ k, pPd D f n k ≤ 100
  | 0 => Nat.zero_le _
  | k + 1 => by
    obtain ⟨y1, y2, y3, y4, y5, y6, y7, y8, y9, y10, y11, y12, y13, y14, y15, y16, y17, y18, y19, y20⟩ := id hD
    exact Nat.max_le.mpr ⟨pPd_le hD hn k, nTime_le (by omega) (by omega) (by omega) hn (y8 _).1⟩
set_option maxRecDepth 100000 in
theorem lp_pd {l : Launch} {dd : Nat} {Po : zPo} {K0 : zK} {h0 : List va_E} {Xo : zK → Prop} {Gc : zG → Prop} (z : Nat) (a : Nat → Nat) (sz fa nk oo be ho : Nat) (y p s q n : Nat) (ay : Nat → Nat) (D : zYd) (f : Nat → Nat) (hd : 2 ≤ dd) (hD : yI D) (hn : 2 ≤ n ∧ n ≤ 12) (hf : ∀ i, i < n → f i < D.1 0)
    (hk : zS (l, mX12_periodOf, dd, Po, K0, h0, Xo, Gc) 0 0 37 [(0, .ref z), (1, .ref q), (2, .int (nI (pPd D f n n)))] [] [(z, .inr (10, fPR a sz fa nk oo be ho)), ((a 4), .inr (7, fSta y p s)), (y, .inr (9, fYard ay (ysN D.1 D.2.1))), (ay 1, .inl (0, 12, .inl (nF D.2.2.1))), (ay 2, .inl (0, 12, .inl (nF D.2.2.2.1))), (ay 3, .inl (0, 12, .inl (nF D.2.2.2.2.1))), (ay 4, .inl (0, 12, .inl (nF D.2.2.2.2.2.1))), (ay 5, .inl (0, 64, .inl (nF D.2.2.2.2.2.2.1))), (ay 6, .inl (1, 64, .inl (nF D.2.2.2.2.2.2.2))), (q, .inl (0, n, .inl (nF f)))]) :
    ∀ (m i : Nat) , i + m = n → zS (l, mX12_periodOf, dd, Po, K0, h0, Xo, Gc) 0 0 4 [(0, .ref z), (1, .ref q), (2, .int (nI (pPd D f n i))), (3, .int (nI i))] [] [(z, .inr (10, fPR a sz fa nk oo be ho)), ((a 4), .inr (7, fSta y p s)), (y, .inr (9, fYard ay (ysN D.1 D.2.1))), (ay 1, .inl (0, 12, .inl (nF D.2.2.1))), (ay 2, .inl (0, 12, .inl (nF D.2.2.2.1))), (ay 3, .inl (0, 12, .inl (nF D.2.2.2.2.1))), (ay 4, .inl (0, 12, .inl (nF D.2.2.2.2.2.1))), (ay 5, .inl (0, 64, .inl (nF D.2.2.2.2.2.2.1))), (ay 6, .inl (1, 64, .inl (nF D.2.2.2.2.2.2.2))), (q, .inl (0, n, .inl (nF f)))] := by
  intro m
  induction m with
  | zero =>
    intro i hi
    refine zs_iload_n dX12_periodOf_4 rfl ?_
    refine zs_aload_n dX12_periodOf_5 rfl rfl ?_
    refine zs_alen (v := (nI n)) 9 dX12_periodOf_6 rfl (by decide) rfl ?_
    refine zs_icmp_ge (tgt := 37) dX12_periodOf_7 (by decide) (fun c_1 => ?_) (fun c_1 => (c_1 (by rw [show i = n by omega]; exact Int32.le_refl _) : False).elim)
    rw [show i = n by omega]
    refine zs_lv [0, 1, 2] rfl ?_
    exact hk
  | succ m ih =>
    intro i hi
    obtain ⟨y1, y2, y3, y4, y5, y6, y7, y8, y9, y10, y11, y12, y13, y14, y15, y16, y17, y18, y19, y20⟩ := id hD
    have hfi := hf i (by omega)
    refine zs_iload_n dX12_periodOf_4 rfl ?_
    refine zs_aload_n dX12_periodOf_5 rfl rfl ?_
    refine zs_alen (v := (nI n)) 9 dX12_periodOf_6 rfl (by decide) rfl ?_
    refine zs_icmp_ge (tgt := 37) dX12_periodOf_7 (by decide) (fun c_1 => (nI_ge (show i < n by omega) (by omega) c_1 : False).elim) (fun c_1 => ?_)
    refine zs_iload_n dX12_periodOf_10 rfl ?_
    refine zs_aload_n dX12_periodOf_11 rfl rfl ?_
    refine zs_get 0 dX12_periodOf_12 zf_RX12_23 rfl (v := .ref (a 4)) rfl ?_
    refine zs_get 1 dX12_periodOf_15 zf_RX12_96 rfl (v := .ref y) rfl ?_
    refine zs_aload_n dX12_periodOf_18 rfl rfl ?_
    refine zs_iload_n dX12_periodOf_19 rfl ?_
    refine zs_iald 9 dX12_periodOf_20 rfl (vp_in_nI (by omega) (by omega)) ?_
    refine zs_as (y := nI (f i)) (by rw [nI_c (n := i) (by omega)]; rfl) ?_
    refine zs_iload_n dX12_periodOf_21 rfl ?_
    refine zs_aload_n dX12_periodOf_22 rfl rfl ?_
    refine zs_alen (v := (nI n)) 9 dX12_periodOf_23 rfl (by decide) rfl ?_
    refine zs_callV (M := mX11_timeAt) (As := [.int (nI (f i)), .int (nI i), .int (nI n)]) (st := [.int (nI (pPd D f n i))]) (Kc := [(y, .inr (9, fYard ay (ysN D.1 D.2.1))), (ay 1, .inl (0, 12, .inl (nF D.2.2.1))), (ay 2, .inl (0, 12, .inl (nF D.2.2.2.1))), (ay 3, .inl (0, 12, .inl (nF D.2.2.2.2.1))), (ay 4, .inl (0, 12, .inl (nF D.2.2.2.2.2.1))), (ay 5, .inl (0, 64, .inl (nF D.2.2.2.2.2.2.1))), (ay 6, .inl (1, 64, .inl (nF D.2.2.2.2.2.2.2)))]) (Kr := [(z, .inr (10, fPR a sz fa nk oo be ho)), ((a 4), .inr (7, fSta y p s)), (q, .inl (0, n, .inl (nF f)))]) [2, 3, 4, 5, 6, 7, 8] [0, 1, 9] 0 dX12_periodOf_24 zl_RX12_238 kX11_timeAt rfl rfl rfl rfl rfl (by decide) rfl rfl (show dd - 1 + 1 ≤ dd by omega) (Nat.zero_le _) (Nat.zero_le _) (Nat.le_of_ble_eq_true rfl) (s_timeAt l (dd - 1) y ay (ysN D.1 D.2.1) (nF D.2.2.1) (nF D.2.2.2.1) (nF D.2.2.2.2.1) (nF D.2.2.2.2.2.1) (nF D.2.2.2.2.2.2.1) (nF D.2.2.2.2.2.2.2) (f i) (D.1 0) (nI i) (nI n) (by omega) (hf i (by omega)) (by omega) rfl) (fun r K1 hr => ?_)
    rw [pTime_n hn (by omega) (by omega) (by omega) (by omega) (by have := (y8 (f i)).1; omega)] at hr
    obtain ⟨rfl, rfl⟩ := hr
    refine zs_K (K' := [(z, .inr (10, fPR a sz fa nk oo be ho)), ((a 4), .inr (7, fSta y p s)), (y, .inr (9, fYard ay (ysN D.1 D.2.1))), (ay 1, .inl (0, 12, .inl (nF D.2.2.1))), (ay 2, .inl (0, 12, .inl (nF D.2.2.2.1))), (ay 3, .inl (0, 12, .inl (nF D.2.2.2.2.1))), (ay 4, .inl (0, 12, .inl (nF D.2.2.2.2.2.1))), (ay 5, .inl (0, 64, .inl (nF D.2.2.2.2.2.2.1))), (ay 6, .inl (1, 64, .inl (nF D.2.2.2.2.2.2.2))), (q, .inl (0, n, .inl (nF f)))]) [0, 1, 3, 4, 5, 6, 7, 8, 9, 2] rfl (by decide) ?_
    refine zs_mmax dX12_periodOf_27 zl_RX12_242 zmmax1 zmath2 zmmax3 (show 1 ≤ dd by omega) (Nat.le_of_ble_eq_true rfl) ?_
    refine zs_as (y := nI (pPd D f n (i + 1))) (nI_max (by have := pPd_le (f := f) hD hn.1 i; omega) (by have := nTime_le (Y := D.1) (hdd := D.2.2.2.1) (m := f i) (p := i) (n := n) (by omega) (by omega) (by omega) hn.1 (y8 _).1; omega)) ?_
    refine zs_istore_n (lv' := [(2, .int (nI (pPd D f n (i + 1)))), (0, .ref z), (1, .ref q), (3, .int (nI i))]) dX12_periodOf_30 (Nat.le_of_ble_eq_true rfl) rfl ?_
    refine zs_iinc (v := (nI (i + 1))) (lv' := [(3, .int (nI (i + 1))), (2, .int (nI (pPd D f n (i + 1)))), (0, .ref z), (1, .ref q)]) dX12_periodOf_31 rfl (nI_add _ 1) (Nat.le_of_ble_eq_true rfl) rfl ?_
    refine zs_goto (tgt := 4) dX12_periodOf_34 (by decide) ?_
    refine zs_lv [2, 3, 1, 0] rfl ?_
    exact ih (i + 1) (by omega)
set_option maxRecDepth 100000 in
theorem s_periodOf (l : Launch) (dd : Nat) (z : Nat) (a : Nat → Nat) (sz fa nk oo be ho : Nat) (y p s q n : Nat) (ay : Nat → Nat) (D : zYd) (f : Nat → Nat) (hd : 2 ≤ dd) (hD : yI D) (hn : 2 ≤ n ∧ n ≤ 12) (hf : ∀ i, i < n → f i < D.1 0) : zSp l mX12_periodOf dd 0 0 [.ref z, .ref q] [(z, .inr (10, fPR a sz fa nk oo be ho)), ((a 4), .inr (7, fSta y p s)), (y, .inr (9, fYard ay (ysN D.1 D.2.1))), (ay 1, .inl (0, 12, .inl (nF D.2.2.1))), (ay 2, .inl (0, 12, .inl (nF D.2.2.2.1))), (ay 3, .inl (0, 12, .inl (nF D.2.2.2.2.1))), (ay 4, .inl (0, 12, .inl (nF D.2.2.2.2.2.1))), (ay 5, .inl (0, 64, .inl (nF D.2.2.2.2.2.2.1))), (ay 6, .inl (1, 64, .inl (nF D.2.2.2.2.2.2.2))), (q, .inl (0, n, .inl (nF f)))] (fun r K' => r = some (.int (nI (pPd D f n n))) ∧ K' = [(z, .inr (10, fPR a sz fa nk oo be ho)), ((a 4), .inr (7, fSta y p s)), (y, .inr (9, fYard ay (ysN D.1 D.2.1))), (ay 1, .inl (0, 12, .inl (nF D.2.2.1))), (ay 2, .inl (0, 12, .inl (nF D.2.2.2.1))), (ay 3, .inl (0, 12, .inl (nF D.2.2.2.2.1))), (ay 4, .inl (0, 12, .inl (nF D.2.2.2.2.2.1))), (ay 5, .inl (0, 64, .inl (nF D.2.2.2.2.2.2.1))), (ay 6, .inl (1, 64, .inl (nF D.2.2.2.2.2.2.2))), (q, .inl (0, n, .inl (nF f)))]) := by
  refine zSp.of (by decide) (Nat.le_of_ble_eq_true rfl) (fun h0 => ?_)
  show zS _ 0 0 0 [(0, .ref z), (1, .ref q)] [] [(z, .inr (10, fPR a sz fa nk oo be ho)), ((a 4), .inr (7, fSta y p s)), (y, .inr (9, fYard ay (ysN D.1 D.2.1))), (ay 1, .inl (0, 12, .inl (nF D.2.2.1))), (ay 2, .inl (0, 12, .inl (nF D.2.2.2.1))), (ay 3, .inl (0, 12, .inl (nF D.2.2.2.2.1))), (ay 4, .inl (0, 12, .inl (nF D.2.2.2.2.2.1))), (ay 5, .inl (0, 64, .inl (nF D.2.2.2.2.2.2.1))), (ay 6, .inl (1, 64, .inl (nF D.2.2.2.2.2.2.2))), (q, .inl (0, n, .inl (nF f)))]
  refine zs_iconst (v := nI 0) dX12_periodOf_0 (by decide) ?_
  refine zs_istore_n (lv' := [(2, .int (nI 0)), (0, .ref z), (1, .ref q)]) dX12_periodOf_1 (Nat.le_of_ble_eq_true rfl) rfl ?_
  refine zs_iconst (v := nI 0) dX12_periodOf_2 (by decide) ?_
  refine zs_istore_n (lv' := [(3, .int (nI 0)), (2, .int (nI 0)), (0, .ref z), (1, .ref q)]) dX12_periodOf_3 (Nat.le_of_ble_eq_true rfl) rfl ?_
  refine zs_lv [2, 3, 1, 0] rfl ?_
  refine lp_pd z a sz fa nk oo be ho y p s q n ay D f hd hD hn hf ?_ n 0 (Nat.zero_add _)
  refine zs_iload_n dX12_periodOf_37 rfl ?_
  exact zs_iret dX12_periodOf_38 rfl ⟨rfl, rfl⟩
theorem dX12_period_0 : decode cX12_period 0 = .ok (.aload_n 0, 1) := by decide +kernel
theorem dX12_period_1 : decode cX12_period 1 = .ok (.iconst 2, 1) := by decide +kernel
theorem dX12_period_2 : decode cX12_period 2 = .ok (.bipush 12, 2) := by decide +kernel
theorem dX12_period_4 : decode cX12_period 4 = .ok (.invokevirtual 193, 3) := by decide +kernel
theorem dX12_period_7 : decode cX12_period 7 = .ok (.astore_n 1, 1) := by decide +kernel
theorem dX12_period_8 : decode cX12_period 8 = .ok (.aload_n 1, 1) := by decide +kernel
theorem dX12_period_9 : decode cX12_period 9 = .ok (.arraylength, 1) := by decide +kernel
theorem dX12_period_10 : decode cX12_period 10 = .ok (.ifCond .ne 5, 3) := by decide +kernel
theorem dX12_period_13 : decode cX12_period 13 = .ok (.iconst (-1), 1) := by decide +kernel
theorem dX12_period_14 : decode cX12_period 14 = .ok (.ireturn, 1) := by decide +kernel
theorem dX12_period_15 : decode cX12_period 15 = .ok (.aload_n 0, 1) := by decide +kernel
theorem dX12_period_16 : decode cX12_period 16 = .ok (.aload_n 1, 1) := by decide +kernel
theorem dX12_period_17 : decode cX12_period 17 = .ok (.invokevirtual 234, 3) := by decide +kernel
theorem dX12_period_20 : decode cX12_period 20 = .ok (.ireturn, 1) := by decide +kernel
set_option maxRecDepth 100000 in
theorem s_period (l : Launch) (dd : Nat) (z : Nat) (a : Nat → Nat) (sz fa nk oo be ho : Nat) (y p s : Nat) (ay : Nat → Nat) (D : zYd) (bt : Nat → Nat) (hd : 4 ≤ dd) (hsz : sz ≤ 740) (hbt : ∀ j, bt j < 256) (hD : yI D) : zSp l mX12_period dd 1 sz [.ref z] [(z, .inr (10, fPR a sz fa nk oo be ho)), (a 0, .inl (0, 740, .inl (nF bt))), ((a 4), .inr (7, fSta y p s)), (y, .inr (9, fYard ay (ysN D.1 D.2.1))), (ay 1, .inl (0, 12, .inl (nF D.2.2.1))), (ay 2, .inl (0, 12, .inl (nF D.2.2.2.1))), (ay 3, .inl (0, 12, .inl (nF D.2.2.2.2.1))), (ay 4, .inl (0, 12, .inl (nF D.2.2.2.2.2.1))), (ay 5, .inl (0, 64, .inl (nF D.2.2.2.2.2.2.1))), (ay 6, .inl (1, 64, .inl (nF D.2.2.2.2.2.2.2)))] (fun r K' => ((pMn bt sz (D.1 0) 2 12) = 0 ∧ r = some (.int (-1)) ∧ K' = [(z, .inr (10, fPR a 0 fa nk oo be ho)), (a 0, .inl (0, 740, .inl (nF bt))), ((a 4), .inr (7, fSta y p s)), (y, .inr (9, fYard ay (ysN D.1 D.2.1))), (ay 1, .inl (0, 12, .inl (nF D.2.2.1))), (ay 2, .inl (0, 12, .inl (nF D.2.2.2.1))), (ay 3, .inl (0, 12, .inl (nF D.2.2.2.2.1))), (ay 4, .inl (0, 12, .inl (nF D.2.2.2.2.2.1))), (ay 5, .inl (0, 64, .inl (nF D.2.2.2.2.2.2.1))), (ay 6, .inl (1, 64, .inl (nF D.2.2.2.2.2.2.2)))]) ∨ (¬ (pMn bt sz (D.1 0) 2 12) = 0 ∧ r = some (.int (nI (pPd D (nCl bt (fun _ => 0) (pMn bt sz (D.1 0) 2 12)) (pMn bt sz (D.1 0) 2 12) (pMn bt sz (D.1 0) 2 12)))) ∧ K' = [(z, .inr (10, fPR a 0 fa nk oo be ho)), (a 0, .inl (0, 740, .inl (nF bt))), ((a 4), .inr (7, fSta y p s)), (y, .inr (9, fYard ay (ysN D.1 D.2.1))), (ay 1, .inl (0, 12, .inl (nF D.2.2.1))), (ay 2, .inl (0, 12, .inl (nF D.2.2.2.1))), (ay 3, .inl (0, 12, .inl (nF D.2.2.2.2.1))), (ay 4, .inl (0, 12, .inl (nF D.2.2.2.2.2.1))), (ay 5, .inl (0, 64, .inl (nF D.2.2.2.2.2.2.1))), (ay 6, .inl (1, 64, .inl (nF D.2.2.2.2.2.2.2)))])) := by
  refine zSp.of (by decide) (Nat.le_of_ble_eq_true rfl) (fun h0 => ?_)
  show zS _ 1 sz 0 [(0, .ref z)] [] [(z, .inr (10, fPR a sz fa nk oo be ho)), (a 0, .inl (0, 740, .inl (nF bt))), ((a 4), .inr (7, fSta y p s)), (y, .inr (9, fYard ay (ysN D.1 D.2.1))), (ay 1, .inl (0, 12, .inl (nF D.2.2.1))), (ay 2, .inl (0, 12, .inl (nF D.2.2.2.1))), (ay 3, .inl (0, 12, .inl (nF D.2.2.2.2.1))), (ay 4, .inl (0, 12, .inl (nF D.2.2.2.2.2.1))), (ay 5, .inl (0, 64, .inl (nF D.2.2.2.2.2.2.1))), (ay 6, .inl (1, 64, .inl (nF D.2.2.2.2.2.2.2)))]
  obtain ⟨y1, y2, y3, y4, y5, y6, y7, y8, y9, y10, y11, y12, y13, y14, y15, y16, y17, y18, y19, y20⟩ := id hD
  refine zs_aload_n dX12_period_0 rfl rfl ?_
  refine zs_iconst (v := nI 2) dX12_period_1 (by decide) ?_
  refine zs_bipush (v := nI 12) dX12_period_2 (by decide) ?_
  have hMle : (pMn bt sz (D.1 0) 2 12) ≤ 12 := pMn_le
  refine zs_callV (M := mX12_takeMen) (As := [.int (nI 2), .int (nI 12)]) (st := []) (Kc := [(z, .inr (10, fPR a sz fa nk oo be ho)), (a 0, .inl (0, 740, .inl (nF bt))), ((a 4), .inr (7, fSta y p s)), (y, .inr (9, fYard ay (ysN D.1 D.2.1)))]) (Kr := [(ay 1, .inl (0, 12, .inl (nF D.2.2.1))), (ay 2, .inl (0, 12, .inl (nF D.2.2.2.1))), (ay 3, .inl (0, 12, .inl (nF D.2.2.2.2.1))), (ay 4, .inl (0, 12, .inl (nF D.2.2.2.2.2.1))), (ay 5, .inl (0, 64, .inl (nF D.2.2.2.2.2.2.1))), (ay 6, .inl (1, 64, .inl (nF D.2.2.2.2.2.2.2)))]) [0, 1, 2, 3] [4, 5, 6, 7, 8, 9] 0 dX12_period_4 zl_RX12_193 kX12_takeMen rfl rfl rfl rfl rfl (by decide) rfl rfl (show dd - 1 + 1 ≤ dd by omega) (by omega) (by omega) (Nat.le_of_ble_eq_true rfl) (s_takeMen l (dd - 1) z a sz fa nk oo be ho bt y p s ay D 2 12 (by omega) hsz (by omega) (by omega) (by omega) hbt) (fun r K1 hr => ?_)
  obtain ⟨q, rfl, rfl⟩ := hr
  refine zs_K (K' := [(z, .inr (10, fPR a 0 fa nk oo be ho)), (a 0, .inl (0, 740, .inl (nF bt))), ((a 4), .inr (7, fSta y p s)), (y, .inr (9, fYard ay (ysN D.1 D.2.1))), (ay 1, .inl (0, 12, .inl (nF D.2.2.1))), (ay 2, .inl (0, 12, .inl (nF D.2.2.2.1))), (ay 3, .inl (0, 12, .inl (nF D.2.2.2.2.1))), (ay 4, .inl (0, 12, .inl (nF D.2.2.2.2.2.1))), (ay 5, .inl (0, 64, .inl (nF D.2.2.2.2.2.2.1))), (ay 6, .inl (1, 64, .inl (nF D.2.2.2.2.2.2.2))), (q, .inl (0, (pMn bt sz (D.1 0) 2 12), .inl (nF (nCl bt (fun _ => 0) (pMn bt sz (D.1 0) 2 12)))))]) [6, 7, 8, 9, 0, 1, 2, 3, 4, 5, 10] rfl (by decide) ?_
  refine zs_astore_n (lv' := [(1, .ref q), (0, .ref z)]) dX12_period_7 (Nat.le_of_ble_eq_true rfl) rfl rfl ?_
  refine zs_aload_n dX12_period_8 rfl rfl ?_
  refine zs_alen (v := (nI (pMn bt sz (D.1 0) 2 12))) 10 dX12_period_9 rfl (by decide) rfl ?_
  refine zs_if_ne (tgt := 15) dX12_period_10 (by decide) (fun c_1 => ?_) (fun c_1 => ?_)
  · have c_1 : ¬ ((pMn bt sz (D.1 0) 2 12) = 0) := by have hc := c_1; rw [show (0 : Int32) = nI 0 from rfl] at hc; rw [nI_eq' (by omega) (by omega)] at hc; exact hc
    have hM := pMn_k c_1
    refine zs_aload_n dX12_period_15 rfl rfl ?_
    refine zs_aload_n dX12_period_16 rfl rfl ?_
    refine zs_callV (M := mX12_periodOf) (As := [.ref q]) (st := []) (Kc := [(z, .inr (10, fPR a 0 fa nk oo be ho)), ((a 4), .inr (7, fSta y p s)), (y, .inr (9, fYard ay (ysN D.1 D.2.1))), (ay 1, .inl (0, 12, .inl (nF D.2.2.1))), (ay 2, .inl (0, 12, .inl (nF D.2.2.2.1))), (ay 3, .inl (0, 12, .inl (nF D.2.2.2.2.1))), (ay 4, .inl (0, 12, .inl (nF D.2.2.2.2.2.1))), (ay 5, .inl (0, 64, .inl (nF D.2.2.2.2.2.2.1))), (ay 6, .inl (1, 64, .inl (nF D.2.2.2.2.2.2.2))), (q, .inl (0, (pMn bt sz (D.1 0) 2 12), .inl (nF (nCl bt (fun _ => 0) (pMn bt sz (D.1 0) 2 12)))))]) (Kr := [(a 0, .inl (0, 740, .inl (nF bt)))]) [0, 2, 3, 4, 5, 6, 7, 8, 9, 10] [1] 0 dX12_period_17 zl_RX12_234 kX12_periodOf rfl rfl rfl rfl rfl (by decide) rfl rfl (show dd - 1 + 1 ≤ dd by omega) (Nat.zero_le _) (Nat.zero_le _) (Nat.le_of_ble_eq_true rfl) (s_periodOf l (dd - 1) z a 0 fa nk oo be ho y p s q (pMn bt sz (D.1 0) 2 12) ay D (nCl bt (fun _ => 0) (pMn bt sz (D.1 0) 2 12)) (by omega) hD ⟨hM.1, hM.2.1⟩ (nCl_f hM.2.2.2.1)) (fun r K1 hr => ?_)
    obtain ⟨rfl, rfl⟩ := hr
    refine zs_K (K' := [(z, .inr (10, fPR a 0 fa nk oo be ho)), (a 0, .inl (0, 740, .inl (nF bt))), ((a 4), .inr (7, fSta y p s)), (y, .inr (9, fYard ay (ysN D.1 D.2.1))), (ay 1, .inl (0, 12, .inl (nF D.2.2.1))), (ay 2, .inl (0, 12, .inl (nF D.2.2.2.1))), (ay 3, .inl (0, 12, .inl (nF D.2.2.2.2.1))), (ay 4, .inl (0, 12, .inl (nF D.2.2.2.2.2.1))), (ay 5, .inl (0, 64, .inl (nF D.2.2.2.2.2.2.1))), (ay 6, .inl (1, 64, .inl (nF D.2.2.2.2.2.2.2))), (q, .inl (0, (pMn bt sz (D.1 0) 2 12), .inl (nF (nCl bt (fun _ => 0) (pMn bt sz (D.1 0) 2 12)))))]) [1, 0, 2, 3, 4, 5, 6, 7, 8, 9, 10] rfl (by decide) ?_
    refine zs_K (K' := [(z, .inr (10, fPR a 0 fa nk oo be ho)), (a 0, .inl (0, 740, .inl (nF bt))), ((a 4), .inr (7, fSta y p s)), (y, .inr (9, fYard ay (ysN D.1 D.2.1))), (ay 1, .inl (0, 12, .inl (nF D.2.2.1))), (ay 2, .inl (0, 12, .inl (nF D.2.2.2.1))), (ay 3, .inl (0, 12, .inl (nF D.2.2.2.2.1))), (ay 4, .inl (0, 12, .inl (nF D.2.2.2.2.2.1))), (ay 5, .inl (0, 64, .inl (nF D.2.2.2.2.2.2.1))), (ay 6, .inl (1, 64, .inl (nF D.2.2.2.2.2.2.2)))]) [0, 1, 2, 3, 4, 5, 6, 7, 8, 9] rfl (by decide) ?_
    exact zs_iret dX12_period_20 rfl (Or.inr ⟨c_1, rfl, rfl⟩)
  · have c_1 : (pMn bt sz (D.1 0) 2 12) = 0 := by have hc := c_1; rw [show (0 : Int32) = nI 0 from rfl] at hc; rw [nI_eq' (by omega) (by omega)] at hc; exact hc
    refine zs_iconst (v := (-1)) dX12_period_13 (by decide) ?_
    refine zs_K (K' := [(z, .inr (10, fPR a 0 fa nk oo be ho)), (a 0, .inl (0, 740, .inl (nF bt))), ((a 4), .inr (7, fSta y p s)), (y, .inr (9, fYard ay (ysN D.1 D.2.1))), (ay 1, .inl (0, 12, .inl (nF D.2.2.1))), (ay 2, .inl (0, 12, .inl (nF D.2.2.2.1))), (ay 3, .inl (0, 12, .inl (nF D.2.2.2.2.1))), (ay 4, .inl (0, 12, .inl (nF D.2.2.2.2.2.1))), (ay 5, .inl (0, 64, .inl (nF D.2.2.2.2.2.2.1))), (ay 6, .inl (1, 64, .inl (nF D.2.2.2.2.2.2.2)))]) [0, 1, 2, 3, 4, 5, 6, 7, 8, 9] rfl (by decide) ?_
    exact zs_iret dX12_period_14 rfl (Or.inl ⟨c_1, rfl, rfl⟩)
