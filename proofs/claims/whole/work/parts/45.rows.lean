/-! ===== the class itself: rows and running ===== -/
def tkT (x : Int32) : Bool := decide (¬ x < 0 ∧ ¬ nI 3600 < x)
theorem zi_nn {x : Int32} (h : ¬ x < 0) : ∃ k, k < 2147483648 ∧ x = nI k := by
  have h1 := x.toInt_lt
  rw [zi_lt, show ((0 : Int32)).toInt = 0 from rfl] at h
  refine ⟨x.toInt.toNat, by omega, ?_⟩
  rw [zi_eq, nI_t (by omega)]
  omega
theorem tkT_k {x : Int32} (h : tkT x = true) : ∃ k, k ≤ 3600 ∧ x = nI k := by
  have h := of_decide_eq_true h
  obtain ⟨k, hk, rfl⟩ := zi_nn h.1
  have h2 := h.2
  rw [nI_lt' (by omega) (by omega)] at h2
  exact ⟨k, by omega, rfl⟩
/-- what a row throws, and how it stands behind it -/
abbrev rwB (D : zYd) (f : Nat → Nat) (n w k : Nat) (s : zRs) : zRs := cWork (D.1 11) (D.1 10) (D.1 7) D.2.2.2.2.2.1 k (cBeg D.1 D.2.2.2.1 f 0 n w s)
abbrev rnB (D : zYd) (f : Nat → Nat) (n k : Nat) (s : zRs) : zRs := rWork (D.1 7) (D.1 8) (rBeg D.1 D.2.2.2.2.1 f 0 n (D.1 9) s) k
theorem dX12_ticksTold_0 : decode cX12_ticksTold 0 = .ok (.iload_n 0, 1) := by decide +kernel
theorem dX12_ticksTold_1 : decode cX12_ticksTold 1 = .ok (.ifCond .lt 14, 3) := by decide +kernel
theorem dX12_ticksTold_4 : decode cX12_ticksTold 4 = .ok (.iload_n 0, 1) := by decide +kernel
theorem dX12_ticksTold_5 : decode cX12_ticksTold 5 = .ok (.sipush 3600, 3) := by decide +kernel
theorem dX12_ticksTold_8 : decode cX12_ticksTold 8 = .ok (.if_icmp .gt 7, 3) := by decide +kernel
theorem dX12_ticksTold_11 : decode cX12_ticksTold 11 = .ok (.iconst 1, 1) := by decide +kernel
theorem dX12_ticksTold_12 : decode cX12_ticksTold 12 = .ok (.goto 4, 3) := by decide +kernel
theorem dX12_ticksTold_15 : decode cX12_ticksTold 15 = .ok (.iconst 0, 1) := by decide +kernel
theorem dX12_ticksTold_16 : decode cX12_ticksTold 16 = .ok (.ireturn, 1) := by decide +kernel
set_option maxRecDepth 100000 in
theorem s_ticks (l : Launch) (dd : Nat) (x : Int32)  : zSp l mX12_ticksTold dd 0 0 [.int x] [] (fun r K' => r = some (.int (nI (bN (tkT x)))) ∧ K' = []) := by
  refine zSp.of (by decide) (Nat.le_of_ble_eq_true rfl) (fun h0 => ?_)
  show zS _ 0 0 0 [(0, .int x)] [] []
  refine zs_iload_n dX12_ticksTold_0 rfl ?_
  refine zs_if_lt (tgt := 15) dX12_ticksTold_1 (by decide) (fun c_1 => ?_) (fun c_1 => ?_)
  · refine zs_iconst (v := nI 0) dX12_ticksTold_15 (by decide) ?_
    exact zs_zret dX12_ticksTold_16 rfl (Or.inl rfl) ⟨by rw [tkT, bN_f (show ¬ (¬ x < 0 ∧ ¬ nI 3600 < x) from fun h => h.1 c_1)], rfl⟩
  · refine zs_iload_n dX12_ticksTold_4 rfl ?_
    refine zs_sipush (v := nI 3600) dX12_ticksTold_5 (by decide) ?_
    refine zs_icmp_gt (tgt := 15) dX12_ticksTold_8 (by decide) (fun c_2 => ?_) (fun c_2 => ?_)
    · refine zs_iconst (v := nI 0) dX12_ticksTold_15 (by decide) ?_
      exact zs_zret dX12_ticksTold_16 rfl (Or.inl rfl) ⟨by rw [tkT, bN_f (show ¬ (¬ x < 0 ∧ ¬ nI 3600 < x) from fun h => h.2 c_2)], rfl⟩
    · refine zs_iconst (v := nI 1) dX12_ticksTold_11 (by decide) ?_
      refine zs_goto (tgt := 16) dX12_ticksTold_12 (by decide) ?_
      exact zs_zret dX12_ticksTold_16 rfl (Or.inr rfl) ⟨by rw [tkT, bN_t (show ¬ x < 0 ∧ ¬ nI 3600 < x from ⟨c_1, c_2⟩)], rfl⟩
theorem dX12_thrownRunning_0 : decode cX12_thrownRunning 0 = .ok (.aload_n 0, 1) := by decide +kernel
theorem dX12_thrownRunning_1 : decode cX12_thrownRunning 1 = .ok (.getfield 51, 3) := by decide +kernel
theorem dX12_thrownRunning_4 : decode cX12_thrownRunning 4 = .ok (.aload_n 0, 1) := by decide +kernel
theorem dX12_thrownRunning_5 : decode cX12_thrownRunning 5 = .ok (.getfield 23, 3) := by decide +kernel
theorem dX12_thrownRunning_8 : decode cX12_thrownRunning 8 = .ok (.getfield 96, 3) := by decide +kernel
theorem dX12_thrownRunning_11 : decode cX12_thrownRunning 11 = .ok (.aload_n 1, 1) := by decide +kernel
theorem dX12_thrownRunning_12 : decode cX12_thrownRunning 12 = .ok (.iconst 0, 1) := by decide +kernel
theorem dX12_thrownRunning_13 : decode cX12_thrownRunning 13 = .ok (.iload_n 2, 1) := by decide +kernel
theorem dX12_thrownRunning_14 : decode cX12_thrownRunning 14 = .ok (.aload_n 0, 1) := by decide +kernel
theorem dX12_thrownRunning_15 : decode cX12_thrownRunning 15 = .ok (.getfield 23, 3) := by decide +kernel
theorem dX12_thrownRunning_18 : decode cX12_thrownRunning 18 = .ok (.getfield 96, 3) := by decide +kernel
theorem dX12_thrownRunning_21 : decode cX12_thrownRunning 21 = .ok (.getfield 201, 3) := by decide +kernel
theorem dX12_thrownRunning_24 : decode cX12_thrownRunning 24 = .ok (.invokevirtual 273, 3) := by decide +kernel
theorem dX12_thrownRunning_27 : decode cX12_thrownRunning 27 = .ok (.aload_n 0, 1) := by decide +kernel
theorem dX12_thrownRunning_28 : decode cX12_thrownRunning 28 = .ok (.getfield 51, 3) := by decide +kernel
theorem dX12_thrownRunning_31 : decode cX12_thrownRunning 31 = .ok (.iload_n 3, 1) := by decide +kernel
theorem dX12_thrownRunning_32 : decode cX12_thrownRunning 32 = .ok (.invokevirtual 274, 3) := by decide +kernel
theorem dX12_thrownRunning_35 : decode cX12_thrownRunning 35 = .ok (.aload_n 0, 1) := by decide +kernel
theorem dX12_thrownRunning_36 : decode cX12_thrownRunning 36 = .ok (.getfield 51, 3) := by decide +kernel
theorem dX12_thrownRunning_39 : decode cX12_thrownRunning 39 = .ok (.getfield 275, 3) := by decide +kernel
theorem dX12_thrownRunning_42 : decode cX12_thrownRunning 42 = .ok (.ireturn, 1) := by decide +kernel
set_option maxRecDepth 100000 in
theorem s_thrownRunning (l : Launch) (dd : Nat) (z : Nat) (a : Nat → Nat) (sz fa nk oo be ho : Nat) (y p s fn : Nat) (ay au : Nat → Nat) (q : Nat) (D : zYd) (f : Nat → Nat) (n k : Nat) (yu : Value) (ru : zRs) (hd : 4 ≤ dd) (hD : yI D) (hn : n ≤ 12) (hfn : n ≤ fn) (hfn2 : fn ≤ 1000) (hf : ∀ i, i < n → f i < D.1 0) (hk : k ≤ 3600) (hI : rI ru) : zSp l mX12_thrownRunning dd 0 0 [.ref z, .ref q, .int (nI n), .int (nI k)] [(z, .inr (10, fPR a sz fa nk oo be ho)), ((a 4), .inr (7, fSta y p s)), (y, .inr (9, fYard ay (ysN D.1 D.2.1))), (ay 3, .inl (0, 12, .inl (nF D.2.2.2.2.1))), ((a 10), .inr (5, fRun au (nF ru.1) yu)), (au 1, .inl (0, 12, .inl (nF (ru.2 1)))), (au 2, .inl (0, 12, .inl (nF (ru.2 2)))), (au 3, .inl (0, 12, .inl (nF (ru.2 3)))), (au 4, .inl (0, 12, .inl (nF (ru.2 4)))), (q, .inl (0, fn, .inl (nF f)))] (fun r K' => r = some (.int (nI ((rnB D f n k ru).1 8))) ∧ K' = [(z, .inr (10, fPR a sz fa nk oo be ho)), ((a 4), .inr (7, fSta y p s)), (y, .inr (9, fYard ay (ysN D.1 D.2.1))), (ay 3, .inl (0, 12, .inl (nF D.2.2.2.2.1))), ((a 10), .inr (5, fRun au (nF (rnB D f n k ru).1) (.ref y))), (au 1, .inl (0, 12, .inl (nF ((rnB D f n k ru).2 1)))), (au 2, .inl (0, 12, .inl (nF ((rnB D f n k ru).2 2)))), (au 3, .inl (0, 12, .inl (nF ((rnB D f n k ru).2 3)))), (au 4, .inl (0, 12, .inl (nF ((rnB D f n k ru).2 4)))), (q, .inl (0, fn, .inl (nF f)))]) := by
  refine zSp.of (by decide) (Nat.le_of_ble_eq_true rfl) (fun h0 => ?_)
  show zS _ 0 0 0 [(0, .ref z), (1, .ref q), (2, .int (nI n)), (3, .int (nI k))] [] [(z, .inr (10, fPR a sz fa nk oo be ho)), ((a 4), .inr (7, fSta y p s)), (y, .inr (9, fYard ay (ysN D.1 D.2.1))), (ay 3, .inl (0, 12, .inl (nF D.2.2.2.2.1))), ((a 10), .inr (5, fRun au (nF ru.1) yu)), (au 1, .inl (0, 12, .inl (nF (ru.2 1)))), (au 2, .inl (0, 12, .inl (nF (ru.2 2)))), (au 3, .inl (0, 12, .inl (nF (ru.2 3)))), (au 4, .inl (0, 12, .inl (nF (ru.2 4)))), (q, .inl (0, fn, .inl (nF f)))]
  obtain ⟨y1, y2, y3, y4, y5, y6, y7, y8, y9, y10, y11, y12, y13, y14, y15, y16, y17, y18, y19, y20⟩ := id hD
  refine zs_aload_n dX12_thrownRunning_0 rfl rfl ?_
  refine zs_get 0 dX12_thrownRunning_1 zf_RX12_51 rfl (v := .ref (a 10)) rfl ?_
  refine zs_aload_n dX12_thrownRunning_4 rfl rfl ?_
  refine zs_get 0 dX12_thrownRunning_5 zf_RX12_23 rfl (v := .ref (a 4)) rfl ?_
  refine zs_get 1 dX12_thrownRunning_8 zf_RX12_96 rfl (v := .ref y) rfl ?_
  refine zs_aload_n dX12_thrownRunning_11 rfl rfl ?_
  refine zs_iconst (v := nI 0) dX12_thrownRunning_12 (by decide) ?_
  refine zs_iload_n dX12_thrownRunning_13 rfl ?_
  refine zs_aload_n dX12_thrownRunning_14 rfl rfl ?_
  refine zs_get 0 dX12_thrownRunning_15 zf_RX12_23 rfl (v := .ref (a 4)) rfl ?_
  refine zs_get 1 dX12_thrownRunning_18 zf_RX12_96 rfl (v := .ref y) rfl ?_
  refine zs_get 2 dX12_thrownRunning_21 zf_RX12_201 rfl (v := .int (nI (D.1 9))) rfl ?_
  refine zs_callV (M := mX6_begin) (As := [.ref y, .ref q, .int (nI 0), .int (nI n), .int (nI (D.1 9))]) (st := []) (Kc := [((a 10), .inr (5, fRun au (nF ru.1) yu)), (au 1, .inl (0, 12, .inl (nF (ru.2 1)))), (au 2, .inl (0, 12, .inl (nF (ru.2 2)))), (au 3, .inl (0, 12, .inl (nF (ru.2 3)))), (au 4, .inl (0, 12, .inl (nF (ru.2 4)))), (y, .inr (9, fYard ay (ysN D.1 D.2.1))), (ay 3, .inl (0, 12, .inl (nF D.2.2.2.2.1))), (q, .inl (0, fn, .inl (nF f)))]) (Kr := [(z, .inr (10, fPR a sz fa nk oo be ho)), ((a 4), .inr (7, fSta y p s))]) [4, 5, 6, 7, 8, 2, 3, 9] [0, 1] 0 dX12_thrownRunning_24 zl_RX12_273 kX6_begin rfl rfl rfl rfl rfl (by decide) rfl rfl (show dd - 1 + 1 ≤ dd by omega) (Nat.zero_le _) (Nat.zero_le _) (Nat.le_of_ble_eq_true rfl) (s_runBegin l (dd - 1) (a 10) y q fn au ay yu ru D.1 D.2.1 D.2.2.2.2.1 f 0 n (D.1 9) (by omega) hn (by omega) hfn2 (fun i hi => by have := hf i hi; rw [Nat.zero_add]; omega) (by omega) (by omega) (fun i hi => by have h1 := hf i hi; have h2 := y9 _ h1; have h3 := y8 (f i); rw [Nat.zero_add]; omega)) (fun r K1 hr => ?_)
  obtain ⟨rfl, rfl⟩ := hr
  refine zs_K (K' := [(z, .inr (10, fPR a sz fa nk oo be ho)), ((a 4), .inr (7, fSta y p s)), (y, .inr (9, fYard ay (ysN D.1 D.2.1))), (ay 3, .inl (0, 12, .inl (nF D.2.2.2.2.1))), ((a 10), .inr (5, fRun au (nF (rBeg D.1 D.2.2.2.2.1 f 0 n (D.1 9) ru).1) (.ref y))), (au 1, .inl (0, 12, .inl (nF ((rBeg D.1 D.2.2.2.2.1 f 0 n (D.1 9) ru).2 1)))), (au 2, .inl (0, 12, .inl (nF ((rBeg D.1 D.2.2.2.2.1 f 0 n (D.1 9) ru).2 2)))), (au 3, .inl (0, 12, .inl (nF ((rBeg D.1 D.2.2.2.2.1 f 0 n (D.1 9) ru).2 3)))), (au 4, .inl (0, 12, .inl (nF ((rBeg D.1 D.2.2.2.2.1 f 0 n (D.1 9) ru).2 4)))), (q, .inl (0, fn, .inl (nF f)))]) [0, 1, 7, 8, 2, 3, 4, 5, 6, 9] rfl (by decide) ?_
  refine zs_aload_n dX12_thrownRunning_27 rfl rfl ?_
  refine zs_get 0 dX12_thrownRunning_28 zf_RX12_51 rfl (v := .ref (a 10)) rfl ?_
  refine zs_iload_n dX12_thrownRunning_31 rfl ?_
  refine zs_callV (M := mX6_work) (As := [.int (nI k)]) (st := []) (Kc := [((a 10), .inr (5, fRun au (nF (rBeg D.1 D.2.2.2.2.1 f 0 n (D.1 9) ru).1) (.ref y))), (au 1, .inl (0, 12, .inl (nF ((rBeg D.1 D.2.2.2.2.1 f 0 n (D.1 9) ru).2 1)))), (au 2, .inl (0, 12, .inl (nF ((rBeg D.1 D.2.2.2.2.1 f 0 n (D.1 9) ru).2 2)))), (au 3, .inl (0, 12, .inl (nF ((rBeg D.1 D.2.2.2.2.1 f 0 n (D.1 9) ru).2 3)))), (au 4, .inl (0, 12, .inl (nF ((rBeg D.1 D.2.2.2.2.1 f 0 n (D.1 9) ru).2 4)))), (y, .inr (9, fYard ay (ysN D.1 D.2.1)))]) (Kr := [(z, .inr (10, fPR a sz fa nk oo be ho)), ((a 4), .inr (7, fSta y p s)), (ay 3, .inl (0, 12, .inl (nF D.2.2.2.2.1))), (q, .inl (0, fn, .inl (nF f)))]) [4, 5, 6, 7, 8, 2] [0, 1, 3, 9] 0 dX12_thrownRunning_32 zl_RX12_274 kX6_work rfl rfl rfl rfl rfl (by decide) rfl rfl (show dd - 1 + 1 ≤ dd by omega) (Nat.zero_le _) (Nat.zero_le _) (Nat.le_of_ble_eq_true rfl) (s_runWork l (dd - 1) (a 10) y au ay (rBeg D.1 D.2.2.2.2.1 f 0 n (D.1 9) ru) D.1 D.2.1 k (by omega) hk (rBeg_I hI hn (by omega) (by omega)) (by omega) (by omega)) (fun r K1 hr => ?_)
  obtain ⟨rfl, rfl⟩ := hr
  refine zs_K (K' := [(z, .inr (10, fPR a sz fa nk oo be ho)), ((a 4), .inr (7, fSta y p s)), (y, .inr (9, fYard ay (ysN D.1 D.2.1))), (ay 3, .inl (0, 12, .inl (nF D.2.2.2.2.1))), ((a 10), .inr (5, fRun au (nF (rnB D f n k ru).1) (.ref y))), (au 1, .inl (0, 12, .inl (nF ((rnB D f n k ru).2 1)))), (au 2, .inl (0, 12, .inl (nF ((rnB D f n k ru).2 2)))), (au 3, .inl (0, 12, .inl (nF ((rnB D f n k ru).2 3)))), (au 4, .inl (0, 12, .inl (nF ((rnB D f n k ru).2 4)))), (q, .inl (0, fn, .inl (nF f)))]) [0, 1, 9, 2, 4, 5, 6, 7, 8, 3] rfl (by decide) ?_
  refine zs_aload_n dX12_thrownRunning_35 rfl rfl ?_
  refine zs_get 0 dX12_thrownRunning_36 zf_RX12_51 rfl (v := .ref (a 10)) rfl ?_
  refine zs_get 4 dX12_thrownRunning_39 zf_RX12_275 rfl (v := .int (nI ((rnB D f n k ru).1 8))) rfl ?_
  exact zs_iret dX12_thrownRunning_42 rfl ⟨rfl, rfl⟩
theorem dX12_thrownInRow_0 : decode cX12_thrownInRow 0 = .ok (.aload_n 0, 1) := by decide +kernel
theorem dX12_thrownInRow_1 : decode cX12_thrownInRow 1 = .ok (.getfield 45, 3) := by decide +kernel
theorem dX12_thrownInRow_4 : decode cX12_thrownInRow 4 = .ok (.aload_n 0, 1) := by decide +kernel
theorem dX12_thrownInRow_5 : decode cX12_thrownInRow 5 = .ok (.getfield 23, 3) := by decide +kernel
theorem dX12_thrownInRow_8 : decode cX12_thrownInRow 8 = .ok (.getfield 96, 3) := by decide +kernel
theorem dX12_thrownInRow_11 : decode cX12_thrownInRow 11 = .ok (.aload_n 1, 1) := by decide +kernel
theorem dX12_thrownInRow_12 : decode cX12_thrownInRow 12 = .ok (.iconst 0, 1) := by decide +kernel
theorem dX12_thrownInRow_13 : decode cX12_thrownInRow 13 = .ok (.iload_n 2, 1) := by decide +kernel
theorem dX12_thrownInRow_14 : decode cX12_thrownInRow 14 = .ok (.iload_n 3, 1) := by decide +kernel
theorem dX12_thrownInRow_15 : decode cX12_thrownInRow 15 = .ok (.invokevirtual 204, 3) := by decide +kernel
theorem dX12_thrownInRow_18 : decode cX12_thrownInRow 18 = .ok (.aload_n 0, 1) := by decide +kernel
theorem dX12_thrownInRow_19 : decode cX12_thrownInRow 19 = .ok (.getfield 45, 3) := by decide +kernel
theorem dX12_thrownInRow_22 : decode cX12_thrownInRow 22 = .ok (.iload 4, 2) := by decide +kernel
theorem dX12_thrownInRow_24 : decode cX12_thrownInRow 24 = .ok (.invokevirtual 208, 3) := by decide +kernel
theorem dX12_thrownInRow_27 : decode cX12_thrownInRow 27 = .ok (.aload_n 0, 1) := by decide +kernel
theorem dX12_thrownInRow_28 : decode cX12_thrownInRow 28 = .ok (.getfield 45, 3) := by decide +kernel
theorem dX12_thrownInRow_31 : decode cX12_thrownInRow 31 = .ok (.getfield 211, 3) := by decide +kernel
theorem dX12_thrownInRow_34 : decode cX12_thrownInRow 34 = .ok (.ireturn, 1) := by decide +kernel
set_option maxRecDepth 100000 in
theorem s_thrownInRow (l : Launch) (dd : Nat) (z : Nat) (a : Nat → Nat) (sz fa nk oo be ho : Nat) (y p s fn : Nat) (ay ar : Nat → Nat) (q : Nat) (D : zYd) (f : Nat → Nat) (n w k : Nat) (yr : Value) (ro : zRs) (hd : 4 ≤ dd) (hD : yI D) (hn : 2 ≤ n ∧ n ≤ 12) (hfn : n ≤ fn) (hfn2 : fn ≤ 1000) (hf : ∀ i, i < n → f i < D.1 0) (hw : w ≤ 9999) (hk : k ≤ 3600) (hW : cW ro) : zSp l mX12_thrownInRow dd 0 0 [.ref z, .ref q, .int (nI n), .int (nI w), .int (nI k)] [(z, .inr (10, fPR a sz fa nk oo be ho)), ((a 4), .inr (7, fSta y p s)), (y, .inr (9, fYard ay (ysN D.1 D.2.1))), (ay 1, .inl (0, 12, .inl (nF D.2.2.1))), (ay 2, .inl (0, 12, .inl (nF D.2.2.2.1))), (ay 3, .inl (0, 12, .inl (nF D.2.2.2.2.1))), (ay 4, .inl (0, 12, .inl (nF D.2.2.2.2.2.1))), (ay 5, .inl (0, 64, .inl (nF D.2.2.2.2.2.2.1))), (ay 6, .inl (1, 64, .inl (nF D.2.2.2.2.2.2.2))), ((a 9), .inr (4, fRow ar (nF ro.1) yr)), (ar 1, .inl (0, 12, .inl (nF (ro.2 1)))), (ar 2, .inl (0, 12, .inl (nF (ro.2 2)))), (ar 3, .inl (0, 12, .inl (nF (ro.2 3)))), (ar 4, .inl (0, 12, .inl (nF (ro.2 4)))), (ar 5, .inl (0, 12, .inl (nF (ro.2 5)))), (ar 6, .inl (0, 360, .inl (nF (ro.2 6)))), (ar 7, .inl (0, 12, .inl (nF (ro.2 7)))), (ar 8, .inl (0, 12, .inl (nF (ro.2 8)))), (ar 9, .inl (0, 12, .inl (nF (ro.2 9)))), (ar 10, .inl (0, 100, .inl (nF (ro.2 10)))), (q, .inl (0, fn, .inl (nF f)))] (fun r K' => r = some (.int (nI ((rwB D f n w k ro).1 15))) ∧ K' = [(z, .inr (10, fPR a sz fa nk oo be ho)), ((a 4), .inr (7, fSta y p s)), (y, .inr (9, fYard ay (ysN D.1 D.2.1))), (ay 1, .inl (0, 12, .inl (nF D.2.2.1))), (ay 2, .inl (0, 12, .inl (nF D.2.2.2.1))), (ay 3, .inl (0, 12, .inl (nF D.2.2.2.2.1))), (ay 4, .inl (0, 12, .inl (nF D.2.2.2.2.2.1))), (ay 5, .inl (0, 64, .inl (nF D.2.2.2.2.2.2.1))), (ay 6, .inl (1, 64, .inl (nF D.2.2.2.2.2.2.2))), ((a 9), .inr (4, fRow ar (nF (rwB D f n w k ro).1) (.ref y))), (ar 1, .inl (0, 12, .inl (nF ((rwB D f n w k ro).2 1)))), (ar 2, .inl (0, 12, .inl (nF ((rwB D f n w k ro).2 2)))), (ar 3, .inl (0, 12, .inl (nF ((rwB D f n w k ro).2 3)))), (ar 4, .inl (0, 12, .inl (nF ((rwB D f n w k ro).2 4)))), (ar 5, .inl (0, 12, .inl (nF ((rwB D f n w k ro).2 5)))), (ar 6, .inl (0, 360, .inl (nF ((rwB D f n w k ro).2 6)))), (ar 7, .inl (0, 12, .inl (nF ((rwB D f n w k ro).2 7)))), (ar 8, .inl (0, 12, .inl (nF ((rwB D f n w k ro).2 8)))), (ar 9, .inl (0, 12, .inl (nF ((rwB D f n w k ro).2 9)))), (ar 10, .inl (0, 100, .inl (nF ((rwB D f n w k ro).2 10)))), (q, .inl (0, fn, .inl (nF f)))]) := by
  refine zSp.of (by decide) (Nat.le_of_ble_eq_true rfl) (fun h0 => ?_)
  show zS _ 0 0 0 [(0, .ref z), (1, .ref q), (2, .int (nI n)), (3, .int (nI w)), (4, .int (nI k))] [] [(z, .inr (10, fPR a sz fa nk oo be ho)), ((a 4), .inr (7, fSta y p s)), (y, .inr (9, fYard ay (ysN D.1 D.2.1))), (ay 1, .inl (0, 12, .inl (nF D.2.2.1))), (ay 2, .inl (0, 12, .inl (nF D.2.2.2.1))), (ay 3, .inl (0, 12, .inl (nF D.2.2.2.2.1))), (ay 4, .inl (0, 12, .inl (nF D.2.2.2.2.2.1))), (ay 5, .inl (0, 64, .inl (nF D.2.2.2.2.2.2.1))), (ay 6, .inl (1, 64, .inl (nF D.2.2.2.2.2.2.2))), ((a 9), .inr (4, fRow ar (nF ro.1) yr)), (ar 1, .inl (0, 12, .inl (nF (ro.2 1)))), (ar 2, .inl (0, 12, .inl (nF (ro.2 2)))), (ar 3, .inl (0, 12, .inl (nF (ro.2 3)))), (ar 4, .inl (0, 12, .inl (nF (ro.2 4)))), (ar 5, .inl (0, 12, .inl (nF (ro.2 5)))), (ar 6, .inl (0, 360, .inl (nF (ro.2 6)))), (ar 7, .inl (0, 12, .inl (nF (ro.2 7)))), (ar 8, .inl (0, 12, .inl (nF (ro.2 8)))), (ar 9, .inl (0, 12, .inl (nF (ro.2 9)))), (ar 10, .inl (0, 100, .inl (nF (ro.2 10)))), (q, .inl (0, fn, .inl (nF f)))]
  obtain ⟨y1, y2, y3, y4, y5, y6, y7, y8, y9, y10, y11, y12, y13, y14, y15, y16, y17, y18, y19, y20⟩ := id hD
  refine zs_aload_n dX12_thrownInRow_0 rfl rfl ?_
  refine zs_get 0 dX12_thrownInRow_1 zf_RX12_45 rfl (v := .ref (a 9)) rfl ?_
  refine zs_aload_n dX12_thrownInRow_4 rfl rfl ?_
  refine zs_get 0 dX12_thrownInRow_5 zf_RX12_23 rfl (v := .ref (a 4)) rfl ?_
  refine zs_get 1 dX12_thrownInRow_8 zf_RX12_96 rfl (v := .ref y) rfl ?_
  refine zs_aload_n dX12_thrownInRow_11 rfl rfl ?_
  refine zs_iconst (v := nI 0) dX12_thrownInRow_12 (by decide) ?_
  refine zs_iload_n dX12_thrownInRow_13 rfl ?_
  refine zs_iload_n dX12_thrownInRow_14 rfl ?_
  refine zs_callV (M := mX5_begin) (As := [.ref y, .ref q, .int (nI 0), .int (nI n), .int (nI w)]) (st := []) (Kc := [((a 9), .inr (4, fRow ar (nF ro.1) yr)), (ar 1, .inl (0, 12, .inl (nF (ro.2 1)))), (ar 2, .inl (0, 12, .inl (nF (ro.2 2)))), (ar 3, .inl (0, 12, .inl (nF (ro.2 3)))), (ar 4, .inl (0, 12, .inl (nF (ro.2 4)))), (ar 5, .inl (0, 12, .inl (nF (ro.2 5)))), (ar 6, .inl (0, 360, .inl (nF (ro.2 6)))), (ar 7, .inl (0, 12, .inl (nF (ro.2 7)))), (ar 8, .inl (0, 12, .inl (nF (ro.2 8)))), (ar 9, .inl (0, 12, .inl (nF (ro.2 9)))), (ar 10, .inl (0, 100, .inl (nF (ro.2 10)))), (y, .inr (9, fYard ay (ysN D.1 D.2.1))), (ay 1, .inl (0, 12, .inl (nF D.2.2.1))), (ay 2, .inl (0, 12, .inl (nF D.2.2.2.1))), (ay 3, .inl (0, 12, .inl (nF D.2.2.2.2.1))), (ay 4, .inl (0, 12, .inl (nF D.2.2.2.2.2.1))), (ay 5, .inl (0, 64, .inl (nF D.2.2.2.2.2.2.1))), (ay 6, .inl (1, 64, .inl (nF D.2.2.2.2.2.2.2))), (q, .inl (0, fn, .inl (nF f)))]) (Kr := [(z, .inr (10, fPR a sz fa nk oo be ho)), ((a 4), .inr (7, fSta y p s))]) [9, 10, 11, 12, 13, 14, 15, 16, 17, 18, 19, 2, 3, 4, 5, 6, 7, 8, 20] [0, 1] 0 dX12_thrownInRow_15 zl_RX12_204 kX5_begin rfl rfl rfl rfl rfl (by decide) rfl rfl (show dd - 1 + 1 ≤ dd by omega) (Nat.zero_le _) (Nat.zero_le _) (Nat.le_of_ble_eq_true rfl) (s_rowBegin l (dd - 1) (a 9) y q fn ar ay yr ro D.1 D.2.1 (nF D.2.2.1) D.2.2.2.1 D.2.2.2.2.1 D.2.2.2.2.2.1 f (nF D.2.2.2.2.2.2.1) (nF D.2.2.2.2.2.2.2) 0 n w (by omega) hn (by omega) hfn2 (fun i hi => by rw [Nat.zero_add]; exact hf i hi) (by omega) (by omega) (by omega) (by omega) (fun j _ => (y8 j).1)) (fun r K1 hr => ?_)
  obtain ⟨rfl, rfl⟩ := hr
  refine zs_K (K' := [(z, .inr (10, fPR a sz fa nk oo be ho)), ((a 4), .inr (7, fSta y p s)), (y, .inr (9, fYard ay (ysN D.1 D.2.1))), (ay 1, .inl (0, 12, .inl (nF D.2.2.1))), (ay 2, .inl (0, 12, .inl (nF D.2.2.2.1))), (ay 3, .inl (0, 12, .inl (nF D.2.2.2.2.1))), (ay 4, .inl (0, 12, .inl (nF D.2.2.2.2.2.1))), (ay 5, .inl (0, 64, .inl (nF D.2.2.2.2.2.2.1))), (ay 6, .inl (1, 64, .inl (nF D.2.2.2.2.2.2.2))), ((a 9), .inr (4, fRow ar (nF (cBeg D.1 D.2.2.2.1 f 0 n w ro).1) (.ref y))), (ar 1, .inl (0, 12, .inl (nF ((cBeg D.1 D.2.2.2.1 f 0 n w ro).2 1)))), (ar 2, .inl (0, 12, .inl (nF ((cBeg D.1 D.2.2.2.1 f 0 n w ro).2 2)))), (ar 3, .inl (0, 12, .inl (nF ((cBeg D.1 D.2.2.2.1 f 0 n w ro).2 3)))), (ar 4, .inl (0, 12, .inl (nF ((cBeg D.1 D.2.2.2.1 f 0 n w ro).2 4)))), (ar 5, .inl (0, 12, .inl (nF ((cBeg D.1 D.2.2.2.1 f 0 n w ro).2 5)))), (ar 6, .inl (0, 360, .inl (nF ((cBeg D.1 D.2.2.2.1 f 0 n w ro).2 6)))), (ar 7, .inl (0, 12, .inl (nF ((cBeg D.1 D.2.2.2.1 f 0 n w ro).2 7)))), (ar 8, .inl (0, 12, .inl (nF ((cBeg D.1 D.2.2.2.1 f 0 n w ro).2 8)))), (ar 9, .inl (0, 12, .inl (nF ((cBeg D.1 D.2.2.2.1 f 0 n w ro).2 9)))), (ar 10, .inl (0, 100, .inl (nF ((cBeg D.1 D.2.2.2.1 f 0 n w ro).2 10)))), (q, .inl (0, fn, .inl (nF f)))]) [0, 1, 13, 14, 15, 16, 17, 18, 19, 2, 3, 4, 5, 6, 7, 8, 9, 10, 11, 12, 20] rfl (by decide) ?_
  refine zs_aload_n dX12_thrownInRow_18 rfl rfl ?_
  refine zs_get 0 dX12_thrownInRow_19 zf_RX12_45 rfl (v := .ref (a 9)) rfl ?_
  refine zs_iload dX12_thrownInRow_22 rfl ?_
  refine zs_callV (M := mX5_work) (As := [.int (nI k)]) (st := []) (Kc := [((a 9), .inr (4, fRow ar (nF (cBeg D.1 D.2.2.2.1 f 0 n w ro).1) (.ref y))), (ar 1, .inl (0, 12, .inl (nF ((cBeg D.1 D.2.2.2.1 f 0 n w ro).2 1)))), (ar 2, .inl (0, 12, .inl (nF ((cBeg D.1 D.2.2.2.1 f 0 n w ro).2 2)))), (ar 3, .inl (0, 12, .inl (nF ((cBeg D.1 D.2.2.2.1 f 0 n w ro).2 3)))), (ar 4, .inl (0, 12, .inl (nF ((cBeg D.1 D.2.2.2.1 f 0 n w ro).2 4)))), (ar 5, .inl (0, 12, .inl (nF ((cBeg D.1 D.2.2.2.1 f 0 n w ro).2 5)))), (ar 6, .inl (0, 360, .inl (nF ((cBeg D.1 D.2.2.2.1 f 0 n w ro).2 6)))), (ar 7, .inl (0, 12, .inl (nF ((cBeg D.1 D.2.2.2.1 f 0 n w ro).2 7)))), (ar 8, .inl (0, 12, .inl (nF ((cBeg D.1 D.2.2.2.1 f 0 n w ro).2 8)))), (ar 9, .inl (0, 12, .inl (nF ((cBeg D.1 D.2.2.2.1 f 0 n w ro).2 9)))), (ar 10, .inl (0, 100, .inl (nF ((cBeg D.1 D.2.2.2.1 f 0 n w ro).2 10)))), (y, .inr (9, fYard ay (ysN D.1 D.2.1))), (ay 1, .inl (0, 12, .inl (nF D.2.2.1))), (ay 2, .inl (0, 12, .inl (nF D.2.2.2.1))), (ay 3, .inl (0, 12, .inl (nF D.2.2.2.2.1))), (ay 4, .inl (0, 12, .inl (nF D.2.2.2.2.2.1))), (ay 5, .inl (0, 64, .inl (nF D.2.2.2.2.2.2.1))), (ay 6, .inl (1, 64, .inl (nF D.2.2.2.2.2.2.2)))]) (Kr := [(z, .inr (10, fPR a sz fa nk oo be ho)), ((a 4), .inr (7, fSta y p s)), (q, .inl (0, fn, .inl (nF f)))]) [9, 10, 11, 12, 13, 14, 15, 16, 17, 18, 19, 2, 3, 4, 5, 6, 7, 8] [0, 1, 20] 0 dX12_thrownInRow_24 zl_RX12_208 kX5_work rfl rfl rfl rfl rfl (by decide) rfl rfl (show dd - 1 + 1 ≤ dd by omega) (Nat.zero_le _) (Nat.zero_le _) (Nat.le_of_ble_eq_true rfl) (s_rowWorkP l (dd - 1) (a 9) y ar ay (cBeg D.1 D.2.2.2.1 f 0 n w ro) D.1 D.2.1 (nF D.2.2.1) D.2.2.2.1 D.2.2.2.2.1 D.2.2.2.2.2.1 (nF D.2.2.2.2.2.2.1) (nF D.2.2.2.2.2.2.2) k (D.1 6) 0 (by omega) (by omega) (by omega) y12 (by omega) (by omega) (fun j _ => (y8 j).2.2) (cBeg_J (Y := D.1) (ff := f) (hdd := D.2.2.2.1) (first := 0) (w := w) hW hn (fun i hi => by rw [Nat.zero_add]; have := hf i hi; omega) (by omega) (by omega) (by omega) (fun i hi => by rw [Nat.zero_add]; exact ⟨(y9 _ (hf i hi)).1, (y8 _).1⟩) (by omega))) (fun r K1 hr => ?_)
  obtain ⟨rfl, rfl⟩ := hr
  refine zs_K (K' := [(z, .inr (10, fPR a sz fa nk oo be ho)), ((a 4), .inr (7, fSta y p s)), (y, .inr (9, fYard ay (ysN D.1 D.2.1))), (ay 1, .inl (0, 12, .inl (nF D.2.2.1))), (ay 2, .inl (0, 12, .inl (nF D.2.2.2.1))), (ay 3, .inl (0, 12, .inl (nF D.2.2.2.2.1))), (ay 4, .inl (0, 12, .inl (nF D.2.2.2.2.2.1))), (ay 5, .inl (0, 64, .inl (nF D.2.2.2.2.2.2.1))), (ay 6, .inl (1, 64, .inl (nF D.2.2.2.2.2.2.2))), ((a 9), .inr (4, fRow ar (nF (rwB D f n w k ro).1) (.ref y))), (ar 1, .inl (0, 12, .inl (nF ((rwB D f n w k ro).2 1)))), (ar 2, .inl (0, 12, .inl (nF ((rwB D f n w k ro).2 2)))), (ar 3, .inl (0, 12, .inl (nF ((rwB D f n w k ro).2 3)))), (ar 4, .inl (0, 12, .inl (nF ((rwB D f n w k ro).2 4)))), (ar 5, .inl (0, 12, .inl (nF ((rwB D f n w k ro).2 5)))), (ar 6, .inl (0, 360, .inl (nF ((rwB D f n w k ro).2 6)))), (ar 7, .inl (0, 12, .inl (nF ((rwB D f n w k ro).2 7)))), (ar 8, .inl (0, 12, .inl (nF ((rwB D f n w k ro).2 8)))), (ar 9, .inl (0, 12, .inl (nF ((rwB D f n w k ro).2 9)))), (ar 10, .inl (0, 100, .inl (nF ((rwB D f n w k ro).2 10)))), (q, .inl (0, fn, .inl (nF f)))]) [0, 1, 14, 15, 16, 17, 18, 19, 20, 3, 4, 5, 6, 7, 8, 9, 10, 11, 12, 13, 2] rfl (by decide) ?_
  refine zs_aload_n dX12_thrownInRow_27 rfl rfl ?_
  refine zs_get 0 dX12_thrownInRow_28 zf_RX12_45 rfl (v := .ref (a 9)) rfl ?_
  refine zs_get 9 dX12_thrownInRow_31 zf_RX12_211 rfl (v := .int (nI ((rwB D f n w k ro).1 15))) rfl ?_
  exact zs_iret dX12_thrownInRow_34 rfl ⟨rfl, rfl⟩
theorem rwB_W {D : zYd} {f : Nat → Nat} {n w k : Nat} {ro : zRs} (hD : yI D) (hn : 2 ≤ n ∧ n ≤ 12) (hf : ∀ i, i < n → f i < D.1 0) (hw : w ≤ 9999) (hk : k ≤ 3600) (hW : cW ro) : cJ (D.1 6) k (rwB D f n w k ro) := by
  obtain ⟨y1, y2, y3, y4, y5, y6, y7, y8, y9, y10, y11, y12, y13, y14, y15, y16, y17, y18, y19, y20⟩ := id hD
  have h := cWork_pails (back := D.1 11) (spill := D.1 10) (hold := D.1 7) (pww := D.2.2.2.2.2.1) (cBeg_J (Y := D.1) (ff := f) (hdd := D.2.2.2.1) (first := 0) (w := w) hW hn (fun i hi => by rw [Nat.zero_add]; have := hf i hi; omega) (by omega) (by omega) (by omega) (fun i hi => by rw [Nat.zero_add]; exact ⟨(y9 _ (hf i hi)).1, (y8 _).1⟩) (by omega)) (by omega) (by omega) k (by omega)
  rw [Nat.zero_add] at h
  exact h
theorem rnB_I {D : zYd} {f : Nat → Nat} {n k : Nat} {ru : zRs} (hD : yI D) (hn : n ≤ 12) (hI : rI ru) : rI (rnB D f n k ru) := by
  obtain ⟨y1, y2, y3, y4, y5, y6, y7, y8, y9, y10, y11, y12, y13, y14, y15, y16, y17, y18, y19, y20⟩ := id hD
  exact rI_work (rBeg_I hI hn (by omega) (by omega)) (by omega) (by omega) k
theorem pMn_k {b : Nat → Nat} {sz M lo hi : Nat} (h : ¬ pMn b sz M lo hi = 0) : lo ≤ pMn b sz M lo hi ∧ pMn b sz M lo hi ≤ hi ∧ pMn b sz M lo hi = sz ∧ (∀ i, i < pMn b sz M lo hi → b i < M) ∧ (∀ i, i < pMn b sz M lo hi → ∀ j, j < i → b j ≠ b i) := by
  unfold pMn at h ⊢
  split at h
  · rename_i h1
    rw [if_pos h1]
    have h2 := of_decide_eq_true h1
    exact ⟨h2.1, h2.2.1, rfl, h2.2.2⟩
  · exact absurd rfl h
theorem pMn_le {b : Nat → Nat} {sz M lo hi : Nat} : pMn b sz M lo hi ≤ hi := by
  unfold pMn
  split
  · rename_i h1
    exact (of_decide_eq_true h1).2.1
  · exact Nat.zero_le _
