/-! ===== the class itself: more beside, relief, line, cost ===== -/
/-- drawn and what is left in the well, together -/
theorem rC_fin (s : zRs) (i : Nat) : (rFin s i).1 7 = s.1 7 ∧ (rFin s i).1 9 = s.1 9 := by
  unfold rFin
  split
  · exact ⟨rfl, rfl⟩
  · split <;> exact ⟨rfl, rfl⟩
theorem rC_a (s : zRs) (i : Nat) : (rA s i).1 7 = s.1 7 ∧ (rA s i).1 9 = s.1 9 := by
  unfold rA
  split
  · exact ⟨rfl, rfl⟩
  · split
    · exact rC_fin _ _
    · exact ⟨rfl, rfl⟩
theorem rC_b (hold draw : Nat) (s : zRs) (i : Nat) : (rB hold draw s i).1 7 + (rB hold draw s i).1 9 = s.1 7 + s.1 9 := by
  unfold rB
  split
  · split
    · split
      · rfl
      · show s.1 7 - min hold (s.1 7) + (s.1 9 + min hold (s.1 7)) = s.1 7 + s.1 9
        have := Nat.min_le_right hold (s.1 7)
        omega
    · rfl
  · rfl
theorem rC_pl (hold draw : Nat) (s : zRs) : ∀ k, (rPl hold draw s k).1 7 + (rPl hold draw s k).1 9 = s.1 7 + s.1 9
  | 0 => rfl
  | k + 1 => by
    rw [rPl, rTk, rC_b, (rC_a _ _).1, (rC_a _ _).2]
    exact rC_pl hold draw s k
theorem rC_work (hold draw : Nat) (s : zRs) : ∀ k, (rWork hold draw s k).1 7 + (rWork hold draw s k).1 9 = s.1 7 + s.1 9
  | 0 => rfl
  | k + 1 => by
    rw [rWork, rC_pl]
    exact rC_work hold draw s k
theorem rnB_C {D : zYd} {f : Nat → Nat} {n k : Nat} {s : zRs} : (rnB D f n k s).1 7 + (rnB D f n k s).1 9 = D.1 9 := by
  rw [rC_work]
  show D.1 9 + 0 = D.1 9
  omega
/-- the time of a place that g others share -/
def nSh (D : zYd) (f g : Nat → Nat) (n p : Nat) : Nat := nUp (nTime D.1 D.2.2.2.1 (f p) p n) (g p + 1)
theorem nSh_le {D : zYd} {f g : Nat → Nat} {n p : Nat} (hD : yI D) (hn : 2 ≤ n) : nSh D f g n p ≤ 100 := by
  obtain ⟨y1, y2, y3, y4, y5, y6, y7, y8, y9, y10, y11, y12, y13, y14, y15, y16, y17, y18, y19, y20⟩ := id hD
  have h := nTime_le (Y := D.1) (hdd := D.2.2.2.1) (m := f p) (p := p) (n := n) (by omega) (by omega) (by omega) hn (y8 _).1
  unfold nSh nUp
  refine Nat.le_trans ?_ h
  generalize nTime D.1 D.2.2.2.1 (f p) p n = t
  by_cases ht : t = 0
  · rw [ht, Nat.div_eq_of_lt (by omega)]
    exact Nat.le_refl _
  · rw [Nat.div_le_iff_le_mul_add_pred (by omega)]
    have := Nat.le_mul_of_pos_left t (show 0 < g p + 1 by omega)
    omega
/-- the slowest of the places below k (the first: 0) -/
def pSl (D : zYd) (f g : Nat → Nat) (n : Nat) : Nat → Nat
  | 0 => 0
  | k + 1 => if nSh D f g n (pSl D f g n k) < nSh D f g n k then k else pSl D f g n k
theorem pSl_lt {D : zYd} {f g : Nat → Nat} {n : Nat} : ∀ k, 1 ≤ k → pSl D f g n k < k
  | 0, h => absurd h (by decide)
  | k + 1, _ => by
    rw [pSl]
    split
    · omega
    · by_cases hk : k = 0
      · subst hk
        exact Nat.zero_lt_one
      · have := pSl_lt (D := D) (f := f) (g := g) (n := n) k (by omega)
        omega
theorem pSl_1 {D : zYd} {f g : Nat → Nat} {n : Nat} : pSl D f g n 1 = 0 := by
  rw [pSl]
  split <;> rfl
/-- how many stand beside, after i were told where to -/
def pOth (D : zYd) (f : Nat → Nat) (n : Nat) : Nat → (Nat → Nat)
  | 0 => fun _ => 0
  | i + 1 => un (pOth D f n i) (pSl D f (pOth D f n i) n n) (pOth D f n i (pSl D f (pOth D f n i) n n) + 1)
theorem pOth_le {D : zYd} {f : Nat → Nat} {n : Nat} : ∀ i j, pOth D f n i j ≤ i
  | 0, _ => Nat.le_refl _
  | i + 1, j => by
    rw [pOth]
    exact un_le (Nat.le_succ_of_le (pOth_le i j)) (Nat.succ_le_succ (pOth_le i _))
theorem dX12_sharedTime_0 : decode cX12_sharedTime 0 = .ok (.aload_n 0, 1) := by decide +kernel
theorem dX12_sharedTime_1 : decode cX12_sharedTime 1 = .ok (.getfield 23, 3) := by decide +kernel
theorem dX12_sharedTime_4 : decode cX12_sharedTime 4 = .ok (.getfield 96, 3) := by decide +kernel
theorem dX12_sharedTime_7 : decode cX12_sharedTime 7 = .ok (.aload_n 1, 1) := by decide +kernel
theorem dX12_sharedTime_8 : decode cX12_sharedTime 8 = .ok (.iload_n 3, 1) := by decide +kernel
theorem dX12_sharedTime_9 : decode cX12_sharedTime 9 = .ok (.iaload, 1) := by decide +kernel
theorem dX12_sharedTime_10 : decode cX12_sharedTime 10 = .ok (.iload_n 3, 1) := by decide +kernel
theorem dX12_sharedTime_11 : decode cX12_sharedTime 11 = .ok (.aload_n 1, 1) := by decide +kernel
theorem dX12_sharedTime_12 : decode cX12_sharedTime 12 = .ok (.arraylength, 1) := by decide +kernel
theorem dX12_sharedTime_13 : decode cX12_sharedTime 13 = .ok (.invokevirtual 238, 3) := by decide +kernel
theorem dX12_sharedTime_16 : decode cX12_sharedTime 16 = .ok (.istore 4, 2) := by decide +kernel
theorem dX12_sharedTime_18 : decode cX12_sharedTime 18 = .ok (.iload 4, 2) := by decide +kernel
theorem dX12_sharedTime_20 : decode cX12_sharedTime 20 = .ok (.aload_n 2, 1) := by decide +kernel
theorem dX12_sharedTime_21 : decode cX12_sharedTime 21 = .ok (.iload_n 3, 1) := by decide +kernel
theorem dX12_sharedTime_22 : decode cX12_sharedTime 22 = .ok (.iaload, 1) := by decide +kernel
theorem dX12_sharedTime_23 : decode cX12_sharedTime 23 = .ok (.iconst 1, 1) := by decide +kernel
theorem dX12_sharedTime_24 : decode cX12_sharedTime 24 = .ok (.iadd, 1) := by decide +kernel
theorem dX12_sharedTime_25 : decode cX12_sharedTime 25 = .ok (.invokestatic 289, 3) := by decide +kernel
theorem dX12_sharedTime_28 : decode cX12_sharedTime 28 = .ok (.ireturn, 1) := by decide +kernel
set_option maxRecDepth 100000 in
theorem s_sharedTime (l : Launch) (dd : Nat) (z : Nat) (a : Nat → Nat) (sz fa nk oo be ho : Nat) (y p s q q2 n : Nat) (ay : Nat → Nat) (D : zYd) (f g : Nat → Nat) (i : Nat) (hd : 2 ≤ dd) (hD : yI D) (hn : 2 ≤ n ∧ n ≤ 12) (hf : ∀ i, i < n → f i < D.1 0) (hg : ∀ j, g j ≤ 9) (hi : i < n) : zSp l mX12_sharedTime dd 0 0 [.ref z, .ref q, .ref q2, .int (nI i)] [(z, .inr (10, fPR a sz fa nk oo be ho)), ((a 4), .inr (7, fSta y p s)), (y, .inr (9, fYard ay (ysN D.1 D.2.1))), (ay 1, .inl (0, 12, .inl (nF D.2.2.1))), (ay 2, .inl (0, 12, .inl (nF D.2.2.2.1))), (ay 3, .inl (0, 12, .inl (nF D.2.2.2.2.1))), (ay 4, .inl (0, 12, .inl (nF D.2.2.2.2.2.1))), (ay 5, .inl (0, 64, .inl (nF D.2.2.2.2.2.2.1))), (ay 6, .inl (1, 64, .inl (nF D.2.2.2.2.2.2.2))), (q, .inl (0, n, .inl (nF f))), (q2, .inl (0, n, .inl (nF g)))] (fun r K' => r = some (.int (nI (nSh D f g n i))) ∧ K' = [(z, .inr (10, fPR a sz fa nk oo be ho)), ((a 4), .inr (7, fSta y p s)), (y, .inr (9, fYard ay (ysN D.1 D.2.1))), (ay 1, .inl (0, 12, .inl (nF D.2.2.1))), (ay 2, .inl (0, 12, .inl (nF D.2.2.2.1))), (ay 3, .inl (0, 12, .inl (nF D.2.2.2.2.1))), (ay 4, .inl (0, 12, .inl (nF D.2.2.2.2.2.1))), (ay 5, .inl (0, 64, .inl (nF D.2.2.2.2.2.2.1))), (ay 6, .inl (1, 64, .inl (nF D.2.2.2.2.2.2.2))), (q, .inl (0, n, .inl (nF f))), (q2, .inl (0, n, .inl (nF g)))]) := by
  refine zSp.of (by decide) (Nat.le_of_ble_eq_true rfl) (fun h0 => ?_)
  show zS _ 0 0 0 [(0, .ref z), (1, .ref q), (2, .ref q2), (3, .int (nI i))] [] [(z, .inr (10, fPR a sz fa nk oo be ho)), ((a 4), .inr (7, fSta y p s)), (y, .inr (9, fYard ay (ysN D.1 D.2.1))), (ay 1, .inl (0, 12, .inl (nF D.2.2.1))), (ay 2, .inl (0, 12, .inl (nF D.2.2.2.1))), (ay 3, .inl (0, 12, .inl (nF D.2.2.2.2.1))), (ay 4, .inl (0, 12, .inl (nF D.2.2.2.2.2.1))), (ay 5, .inl (0, 64, .inl (nF D.2.2.2.2.2.2.1))), (ay 6, .inl (1, 64, .inl (nF D.2.2.2.2.2.2.2))), (q, .inl (0, n, .inl (nF f))), (q2, .inl (0, n, .inl (nF g)))]
  obtain ⟨y1, y2, y3, y4, y5, y6, y7, y8, y9, y10, y11, y12, y13, y14, y15, y16, y17, y18, y19, y20⟩ := id hD
  have hfi := hf i hi
  have hgi := hg i
  have hnt := nTime_le (Y := D.1) (hdd := D.2.2.2.1) (m := f i) (p := i) (n := n) (by omega) (by omega) (by omega) hn.1 (y8 _).1
  refine zs_aload_n dX12_sharedTime_0 rfl rfl ?_
  refine zs_get 0 dX12_sharedTime_1 zf_RX12_23 rfl (v := .ref (a 4)) rfl ?_
  refine zs_get 1 dX12_sharedTime_4 zf_RX12_96 rfl (v := .ref y) rfl ?_
  refine zs_aload_n dX12_sharedTime_7 rfl rfl ?_
  refine zs_iload_n dX12_sharedTime_8 rfl ?_
  refine zs_iald 9 dX12_sharedTime_9 rfl (vp_in_nI (by omega) (by omega)) ?_
  refine zs_as (y := nI (f i)) (by rw [nI_c (n := i) (by omega)]; rfl) ?_
  refine zs_iload_n dX12_sharedTime_10 rfl ?_
  refine zs_aload_n dX12_sharedTime_11 rfl rfl ?_
  refine zs_alen (v := (nI n)) 9 dX12_sharedTime_12 rfl (by decide) rfl ?_
  refine zs_callV (M := mX11_timeAt) (As := [.int (nI (f i)), .int (nI i), .int (nI n)]) (st := []) (Kc := [(y, .inr (9, fYard ay (ysN D.1 D.2.1))), (ay 1, .inl (0, 12, .inl (nF D.2.2.1))), (ay 2, .inl (0, 12, .inl (nF D.2.2.2.1))), (ay 3, .inl (0, 12, .inl (nF D.2.2.2.2.1))), (ay 4, .inl (0, 12, .inl (nF D.2.2.2.2.2.1))), (ay 5, .inl (0, 64, .inl (nF D.2.2.2.2.2.2.1))), (ay 6, .inl (1, 64, .inl (nF D.2.2.2.2.2.2.2)))]) (Kr := [(z, .inr (10, fPR a sz fa nk oo be ho)), ((a 4), .inr (7, fSta y p s)), (q, .inl (0, n, .inl (nF f))), (q2, .inl (0, n, .inl (nF g)))]) [2, 3, 4, 5, 6, 7, 8] [0, 1, 9, 10] 0 dX12_sharedTime_13 zl_RX12_238 kX11_timeAt rfl rfl rfl rfl rfl (by decide) rfl rfl (show dd - 1 + 1 ≤ dd by omega) (Nat.zero_le _) (Nat.zero_le _) (Nat.le_of_ble_eq_true rfl) (s_timeAt l (dd - 1) y ay (ysN D.1 D.2.1) (nF D.2.2.1) (nF D.2.2.2.1) (nF D.2.2.2.2.1) (nF D.2.2.2.2.2.1) (nF D.2.2.2.2.2.2.1) (nF D.2.2.2.2.2.2.2) (f i) (D.1 0) (nI i) (nI n) (by omega) (hf i (by omega)) (by omega) rfl) (fun r K1 hr => ?_)
  rw [pTime_n hn (by omega) (by omega) (by omega) (by omega) (by have := (y8 (f i)).1; omega)] at hr
  obtain ⟨rfl, rfl⟩ := hr
  refine zs_K (K' := [(z, .inr (10, fPR a sz fa nk oo be ho)), ((a 4), .inr (7, fSta y p s)), (y, .inr (9, fYard ay (ysN D.1 D.2.1))), (ay 1, .inl (0, 12, .inl (nF D.2.2.1))), (ay 2, .inl (0, 12, .inl (nF D.2.2.2.1))), (ay 3, .inl (0, 12, .inl (nF D.2.2.2.2.1))), (ay 4, .inl (0, 12, .inl (nF D.2.2.2.2.2.1))), (ay 5, .inl (0, 64, .inl (nF D.2.2.2.2.2.2.1))), (ay 6, .inl (1, 64, .inl (nF D.2.2.2.2.2.2.2))), (q, .inl (0, n, .inl (nF f))), (q2, .inl (0, n, .inl (nF g)))]) [0, 1, 4, 5, 6, 7, 8, 9, 10, 2, 3] rfl (by decide) ?_
  refine zs_istore (lv' := [(4, .int (nI (nTime D.1 D.2.2.2.1 (f i) i n))), (0, .ref z), (1, .ref q), (2, .ref q2), (3, .int (nI i))]) dX12_sharedTime_16 (Nat.le_of_ble_eq_true rfl) rfl ?_
  refine zs_iload dX12_sharedTime_18 rfl ?_
  refine zs_aload_n dX12_sharedTime_20 rfl rfl ?_
  refine zs_iload_n dX12_sharedTime_21 rfl ?_
  refine zs_iald 10 dX12_sharedTime_22 rfl (vp_in_nI (by omega) (by omega)) ?_
  refine zs_as (y := nI (g i)) (by rw [nI_c (n := i) (by omega)]; rfl) ?_
  refine zs_iconst (v := nI 1) dX12_sharedTime_23 (by decide) ?_
  refine zs_iadd dX12_sharedTime_24 ?_
  refine zs_as (y := nI ((g i) + 1)) (nI_add _ _) ?_
  refine zs_callS (M := mX12_cutUp) (As := [.int (nI (nTime D.1 D.2.2.2.1 (f i) i n)), .int (nI ((g i) + 1))]) (st := []) (Kc := []) (Kr := [(z, .inr (10, fPR a sz fa nk oo be ho)), ((a 4), .inr (7, fSta y p s)), (y, .inr (9, fYard ay (ysN D.1 D.2.1))), (ay 1, .inl (0, 12, .inl (nF D.2.2.1))), (ay 2, .inl (0, 12, .inl (nF D.2.2.2.1))), (ay 3, .inl (0, 12, .inl (nF D.2.2.2.2.1))), (ay 4, .inl (0, 12, .inl (nF D.2.2.2.2.2.1))), (ay 5, .inl (0, 64, .inl (nF D.2.2.2.2.2.2.1))), (ay 6, .inl (1, 64, .inl (nF D.2.2.2.2.2.2.2))), (q, .inl (0, n, .inl (nF f))), (q2, .inl (0, n, .inl (nF g)))]) [] [0, 1, 2, 3, 4, 5, 6, 7, 8, 9, 10] dX12_sharedTime_25 zl_RX12_289 kX12_cutUp rfl rfl rfl rfl rfl (by decide) (show dd - 1 + 1 ≤ dd by omega) (Nat.zero_le _) (Nat.zero_le _) (Nat.le_of_ble_eq_true rfl) (s_cutUp l (dd - 1) (nI (nTime D.1 D.2.2.2.1 (f i) i n)) (nI ((g i) + 1))) (fun r K1 hr => ?_)
  rw [pUp_n (by omega) (by omega) (by omega)] at hr
  obtain ⟨rfl, rfl⟩ := hr
  refine zs_K (K' := [(z, .inr (10, fPR a sz fa nk oo be ho)), ((a 4), .inr (7, fSta y p s)), (y, .inr (9, fYard ay (ysN D.1 D.2.1))), (ay 1, .inl (0, 12, .inl (nF D.2.2.1))), (ay 2, .inl (0, 12, .inl (nF D.2.2.2.1))), (ay 3, .inl (0, 12, .inl (nF D.2.2.2.2.1))), (ay 4, .inl (0, 12, .inl (nF D.2.2.2.2.2.1))), (ay 5, .inl (0, 64, .inl (nF D.2.2.2.2.2.2.1))), (ay 6, .inl (1, 64, .inl (nF D.2.2.2.2.2.2.2))), (q, .inl (0, n, .inl (nF f))), (q2, .inl (0, n, .inl (nF g)))]) [0, 1, 2, 3, 4, 5, 6, 7, 8, 9, 10] rfl (by decide) ?_
  exact zs_iret dX12_sharedTime_28 rfl ⟨rfl, rfl⟩
theorem dX12_slowestPlace_0 : decode cX12_slowestPlace 0 = .ok (.iconst 0, 1) := by decide +kernel
theorem dX12_slowestPlace_1 : decode cX12_slowestPlace 1 = .ok (.istore_n 3, 1) := by decide +kernel
theorem dX12_slowestPlace_2 : decode cX12_slowestPlace 2 = .ok (.iconst 1, 1) := by decide +kernel
theorem dX12_slowestPlace_3 : decode cX12_slowestPlace 3 = .ok (.istore 4, 2) := by decide +kernel
theorem dX12_slowestPlace_5 : decode cX12_slowestPlace 5 = .ok (.iload 4, 2) := by decide +kernel
theorem dX12_slowestPlace_7 : decode cX12_slowestPlace 7 = .ok (.aload_n 1, 1) := by decide +kernel
theorem dX12_slowestPlace_8 : decode cX12_slowestPlace 8 = .ok (.arraylength, 1) := by decide +kernel
theorem dX12_slowestPlace_9 : decode cX12_slowestPlace 9 = .ok (.if_icmp .ge 30, 3) := by decide +kernel
theorem dX12_slowestPlace_12 : decode cX12_slowestPlace 12 = .ok (.aload_n 0, 1) := by decide +kernel
theorem dX12_slowestPlace_13 : decode cX12_slowestPlace 13 = .ok (.aload_n 1, 1) := by decide +kernel
theorem dX12_slowestPlace_14 : decode cX12_slowestPlace 14 = .ok (.aload_n 2, 1) := by decide +kernel
theorem dX12_slowestPlace_15 : decode cX12_slowestPlace 15 = .ok (.iload 4, 2) := by decide +kernel
theorem dX12_slowestPlace_17 : decode cX12_slowestPlace 17 = .ok (.invokevirtual 285, 3) := by decide +kernel
theorem dX12_slowestPlace_20 : decode cX12_slowestPlace 20 = .ok (.aload_n 0, 1) := by decide +kernel
theorem dX12_slowestPlace_21 : decode cX12_slowestPlace 21 = .ok (.aload_n 1, 1) := by decide +kernel
theorem dX12_slowestPlace_22 : decode cX12_slowestPlace 22 = .ok (.aload_n 2, 1) := by decide +kernel
theorem dX12_slowestPlace_23 : decode cX12_slowestPlace 23 = .ok (.iload_n 3, 1) := by decide +kernel
theorem dX12_slowestPlace_24 : decode cX12_slowestPlace 24 = .ok (.invokevirtual 285, 3) := by decide +kernel
theorem dX12_slowestPlace_27 : decode cX12_slowestPlace 27 = .ok (.if_icmp .le 6, 3) := by decide +kernel
theorem dX12_slowestPlace_30 : decode cX12_slowestPlace 30 = .ok (.iload 4, 2) := by decide +kernel
theorem dX12_slowestPlace_32 : decode cX12_slowestPlace 32 = .ok (.istore_n 3, 1) := by decide +kernel
theorem dX12_slowestPlace_33 : decode cX12_slowestPlace 33 = .ok (.iinc 4 1, 3) := by decide +kernel
theorem dX12_slowestPlace_36 : decode cX12_slowestPlace 36 = .ok (.goto (-31), 3) := by decide +kernel
theorem dX12_slowestPlace_39 : decode cX12_slowestPlace 39 = .ok (.iload_n 3, 1) := by decide +kernel
theorem dX12_slowestPlace_40 : decode cX12_slowestPlace 40 = .ok (.ireturn, 1) := by decide +kernel
set_option maxRecDepth 100000 in
theorem lp_sl {l : Launch} {dd : Nat} {Po : zPo} {K0 : zK} {h0 : List va_E} {Xo : zK → Prop} {Gc : zG → Prop} (z : Nat) (a : Nat → Nat) (sz fa nk oo be ho : Nat) (y p s q q2 n : Nat) (ay : Nat → Nat) (D : zYd) (f g : Nat → Nat) (hd : 3 ≤ dd) (hD : yI D) (hn : 2 ≤ n ∧ n ≤ 12) (hf : ∀ i, i < n → f i < D.1 0) (hg : ∀ j, g j ≤ 9)
    (hk : zS (l, mX12_slowestPlace, dd, Po, K0, h0, Xo, Gc) 0 0 39 [(0, .ref z), (1, .ref q), (2, .ref q2), (3, .int (nI (pSl D f g n n)))] [] [(z, .inr (10, fPR a sz fa nk oo be ho)), ((a 4), .inr (7, fSta y p s)), (y, .inr (9, fYard ay (ysN D.1 D.2.1))), (ay 1, .inl (0, 12, .inl (nF D.2.2.1))), (ay 2, .inl (0, 12, .inl (nF D.2.2.2.1))), (ay 3, .inl (0, 12, .inl (nF D.2.2.2.2.1))), (ay 4, .inl (0, 12, .inl (nF D.2.2.2.2.2.1))), (ay 5, .inl (0, 64, .inl (nF D.2.2.2.2.2.2.1))), (ay 6, .inl (1, 64, .inl (nF D.2.2.2.2.2.2.2))), (q, .inl (0, n, .inl (nF f))), (q2, .inl (0, n, .inl (nF g)))]) :
    ∀ (m i : Nat) , i + m = n → 1 ≤ i → zS (l, mX12_slowestPlace, dd, Po, K0, h0, Xo, Gc) 0 0 5 [(0, .ref z), (1, .ref q), (2, .ref q2), (3, .int (nI (pSl D f g n i))), (4, .int (nI i))] [] [(z, .inr (10, fPR a sz fa nk oo be ho)), ((a 4), .inr (7, fSta y p s)), (y, .inr (9, fYard ay (ysN D.1 D.2.1))), (ay 1, .inl (0, 12, .inl (nF D.2.2.1))), (ay 2, .inl (0, 12, .inl (nF D.2.2.2.1))), (ay 3, .inl (0, 12, .inl (nF D.2.2.2.2.1))), (ay 4, .inl (0, 12, .inl (nF D.2.2.2.2.2.1))), (ay 5, .inl (0, 64, .inl (nF D.2.2.2.2.2.2.1))), (ay 6, .inl (1, 64, .inl (nF D.2.2.2.2.2.2.2))), (q, .inl (0, n, .inl (nF f))), (q2, .inl (0, n, .inl (nF g)))] := by
  intro m
  induction m with
  | zero =>
    intro i hi h1
    refine zs_iload dX12_slowestPlace_5 rfl ?_
    refine zs_aload_n dX12_slowestPlace_7 rfl rfl ?_
    refine zs_alen (v := (nI n)) 9 dX12_slowestPlace_8 rfl (by decide) rfl ?_
    refine zs_icmp_ge (tgt := 39) dX12_slowestPlace_9 (by decide) (fun c_1 => ?_) (fun c_1 => (c_1 (by rw [show i = n by omega]; exact Int32.le_refl _) : False).elim)
    rw [show i = n by omega]
    refine zs_lv [0, 1, 2, 3] rfl ?_
    exact hk
  | succ m ih =>
    intro i hi h1
    have hsl := pSl_lt (D := D) (f := f) (g := g) (n := n) i h1
    have hq1 := nSh_le (f := f) (g := g) (p := i) hD hn.1
    have hq2 := nSh_le (f := f) (g := g) (p := (pSl D f g n i)) hD hn.1
    refine zs_iload dX12_slowestPlace_5 rfl ?_
    refine zs_aload_n dX12_slowestPlace_7 rfl rfl ?_
    refine zs_alen (v := (nI n)) 9 dX12_slowestPlace_8 rfl (by decide) rfl ?_
    refine zs_icmp_ge (tgt := 39) dX12_slowestPlace_9 (by decide) (fun c_1 => (nI_ge (show i < n by omega) (by omega) c_1 : False).elim) (fun c_1 => ?_)
    refine zs_aload_n dX12_slowestPlace_12 rfl rfl ?_
    refine zs_aload_n dX12_slowestPlace_13 rfl rfl ?_
    refine zs_aload_n dX12_slowestPlace_14 rfl rfl ?_
    refine zs_iload dX12_slowestPlace_15 rfl ?_
    refine zs_callV (M := mX12_sharedTime) (As := [.ref q, .ref q2, .int (nI i)]) (st := []) (Kc := [(z, .inr (10, fPR a sz fa nk oo be ho)), ((a 4), .inr (7, fSta y p s)), (y, .inr (9, fYard ay (ysN D.1 D.2.1))), (ay 1, .inl (0, 12, .inl (nF D.2.2.1))), (ay 2, .inl (0, 12, .inl (nF D.2.2.2.1))), (ay 3, .inl (0, 12, .inl (nF D.2.2.2.2.1))), (ay 4, .inl (0, 12, .inl (nF D.2.2.2.2.2.1))), (ay 5, .inl (0, 64, .inl (nF D.2.2.2.2.2.2.1))), (ay 6, .inl (1, 64, .inl (nF D.2.2.2.2.2.2.2))), (q, .inl (0, n, .inl (nF f))), (q2, .inl (0, n, .inl (nF g)))]) (Kr := []) [0, 1, 2, 3, 4, 5, 6, 7, 8, 9, 10] [] 0 dX12_slowestPlace_17 zl_RX12_285 kX12_sharedTime rfl rfl rfl rfl rfl (by decide) rfl rfl (show dd - 1 + 1 ≤ dd by omega) (Nat.zero_le _) (Nat.zero_le _) (Nat.le_of_ble_eq_true rfl) (s_sharedTime l (dd - 1) z a sz fa nk oo be ho y p s q q2 n ay D f g i (by omega) hD hn hf hg (by omega)) (fun r K1 hr => ?_)
    obtain ⟨rfl, rfl⟩ := hr
    refine zs_K (K' := [(z, .inr (10, fPR a sz fa nk oo be ho)), ((a 4), .inr (7, fSta y p s)), (y, .inr (9, fYard ay (ysN D.1 D.2.1))), (ay 1, .inl (0, 12, .inl (nF D.2.2.1))), (ay 2, .inl (0, 12, .inl (nF D.2.2.2.1))), (ay 3, .inl (0, 12, .inl (nF D.2.2.2.2.1))), (ay 4, .inl (0, 12, .inl (nF D.2.2.2.2.2.1))), (ay 5, .inl (0, 64, .inl (nF D.2.2.2.2.2.2.1))), (ay 6, .inl (1, 64, .inl (nF D.2.2.2.2.2.2.2))), (q, .inl (0, n, .inl (nF f))), (q2, .inl (0, n, .inl (nF g)))]) [0, 1, 2, 3, 4, 5, 6, 7, 8, 9, 10] rfl (by decide) ?_
    refine zs_aload_n dX12_slowestPlace_20 rfl rfl ?_
    refine zs_aload_n dX12_slowestPlace_21 rfl rfl ?_
    refine zs_aload_n dX12_slowestPlace_22 rfl rfl ?_
    refine zs_iload_n dX12_slowestPlace_23 rfl ?_
    refine zs_callV (M := mX12_sharedTime) (As := [.ref q, .ref q2, .int (nI (pSl D f g n i))]) (st := [.int (nI (nSh D f g n i))]) (Kc := [(z, .inr (10, fPR a sz fa nk oo be ho)), ((a 4), .inr (7, fSta y p s)), (y, .inr (9, fYard ay (ysN D.1 D.2.1))), (ay 1, .inl (0, 12, .inl (nF D.2.2.1))), (ay 2, .inl (0, 12, .inl (nF D.2.2.2.1))), (ay 3, .inl (0, 12, .inl (nF D.2.2.2.2.1))), (ay 4, .inl (0, 12, .inl (nF D.2.2.2.2.2.1))), (ay 5, .inl (0, 64, .inl (nF D.2.2.2.2.2.2.1))), (ay 6, .inl (1, 64, .inl (nF D.2.2.2.2.2.2.2))), (q, .inl (0, n, .inl (nF f))), (q2, .inl (0, n, .inl (nF g)))]) (Kr := []) [0, 1, 2, 3, 4, 5, 6, 7, 8, 9, 10] [] 0 dX12_slowestPlace_24 zl_RX12_285 kX12_sharedTime rfl rfl rfl rfl rfl (by decide) rfl rfl (show dd - 1 + 1 ≤ dd by omega) (Nat.zero_le _) (Nat.zero_le _) (Nat.le_of_ble_eq_true rfl) (s_sharedTime l (dd - 1) z a sz fa nk oo be ho y p s q q2 n ay D f g (pSl D f g n i) (by omega) hD hn hf hg (by omega)) (fun r K1 hr => ?_)
    obtain ⟨rfl, rfl⟩ := hr
    refine zs_K (K' := [(z, .inr (10, fPR a sz fa nk oo be ho)), ((a 4), .inr (7, fSta y p s)), (y, .inr (9, fYard ay (ysN D.1 D.2.1))), (ay 1, .inl (0, 12, .inl (nF D.2.2.1))), (ay 2, .inl (0, 12, .inl (nF D.2.2.2.1))), (ay 3, .inl (0, 12, .inl (nF D.2.2.2.2.1))), (ay 4, .inl (0, 12, .inl (nF D.2.2.2.2.2.1))), (ay 5, .inl (0, 64, .inl (nF D.2.2.2.2.2.2.1))), (ay 6, .inl (1, 64, .inl (nF D.2.2.2.2.2.2.2))), (q, .inl (0, n, .inl (nF f))), (q2, .inl (0, n, .inl (nF g)))]) [0, 1, 2, 3, 4, 5, 6, 7, 8, 9, 10] rfl (by decide) ?_
    refine zs_icmp_le (tgt := 33) dX12_slowestPlace_27 (by decide) (fun c_2 => ?_) (fun c_2 => ?_)
    · have c_2 : (nSh D f g n i) ≤ (nSh D f g n (pSl D f g n i)) := by have hc := c_2; rw [nI_le' (by omega) (by omega)] at hc; exact hc
      refine zs_iinc (v := (nI (i + 1))) (lv' := [(4, .int (nI (i + 1))), (0, .ref z), (1, .ref q), (2, .ref q2), (3, .int (nI (pSl D f g n i)))]) dX12_slowestPlace_33 rfl (nI_add _ 1) (Nat.le_of_ble_eq_true rfl) rfl ?_
      refine zs_goto (tgt := 5) dX12_slowestPlace_36 (by decide) ?_
      refine zs_lv [1, 2, 3, 4, 0] rfl ?_
      have hr := ih (i + 1) (by omega) (by omega)
      rw [show pSl D f g n (i + 1) = pSl D f g n i from if_neg (show ¬ nSh D f g n (pSl D f g n i) < nSh D f g n i by omega)] at hr
      exact hr
    · have c_2 : ¬ ((nSh D f g n i) ≤ (nSh D f g n (pSl D f g n i))) := by have hc := c_2; rw [nI_le' (by omega) (by omega)] at hc; exact hc
      refine zs_iload dX12_slowestPlace_30 rfl ?_
      refine zs_istore_n (lv' := [(3, .int (nI i)), (0, .ref z), (1, .ref q), (2, .ref q2), (4, .int (nI i))]) dX12_slowestPlace_32 (Nat.le_of_ble_eq_true rfl) rfl ?_
      refine zs_iinc (v := (nI (i + 1))) (lv' := [(4, .int (nI (i + 1))), (3, .int (nI i)), (0, .ref z), (1, .ref q), (2, .ref q2)]) dX12_slowestPlace_33 rfl (nI_add _ 1) (Nat.le_of_ble_eq_true rfl) rfl ?_
      refine zs_goto (tgt := 5) dX12_slowestPlace_36 (by decide) ?_
      refine zs_lv [2, 3, 4, 1, 0] rfl ?_
      have hr := ih (i + 1) (by omega) (by omega)
      rw [show pSl D f g n (i + 1) = i from if_pos (show nSh D f g n (pSl D f g n i) < nSh D f g n i by omega)] at hr
      exact hr
set_option maxRecDepth 100000 in
theorem s_slowest (l : Launch) (dd : Nat) (z : Nat) (a : Nat → Nat) (sz fa nk oo be ho : Nat) (y p s q q2 n : Nat) (ay : Nat → Nat) (D : zYd) (f g : Nat → Nat) (hd : 3 ≤ dd) (hD : yI D) (hn : 2 ≤ n ∧ n ≤ 12) (hf : ∀ i, i < n → f i < D.1 0) (hg : ∀ j, g j ≤ 9) : zSp l mX12_slowestPlace dd 0 0 [.ref z, .ref q, .ref q2] [(z, .inr (10, fPR a sz fa nk oo be ho)), ((a 4), .inr (7, fSta y p s)), (y, .inr (9, fYard ay (ysN D.1 D.2.1))), (ay 1, .inl (0, 12, .inl (nF D.2.2.1))), (ay 2, .inl (0, 12, .inl (nF D.2.2.2.1))), (ay 3, .inl (0, 12, .inl (nF D.2.2.2.2.1))), (ay 4, .inl (0, 12, .inl (nF D.2.2.2.2.2.1))), (ay 5, .inl (0, 64, .inl (nF D.2.2.2.2.2.2.1))), (ay 6, .inl (1, 64, .inl (nF D.2.2.2.2.2.2.2))), (q, .inl (0, n, .inl (nF f))), (q2, .inl (0, n, .inl (nF g)))] (fun r K' => r = some (.int (nI (pSl D f g n n))) ∧ K' = [(z, .inr (10, fPR a sz fa nk oo be ho)), ((a 4), .inr (7, fSta y p s)), (y, .inr (9, fYard ay (ysN D.1 D.2.1))), (ay 1, .inl (0, 12, .inl (nF D.2.2.1))), (ay 2, .inl (0, 12, .inl (nF D.2.2.2.1))), (ay 3, .inl (0, 12, .inl (nF D.2.2.2.2.1))), (ay 4, .inl (0, 12, .inl (nF D.2.2.2.2.2.1))), (ay 5, .inl (0, 64, .inl (nF D.2.2.2.2.2.2.1))), (ay 6, .inl (1, 64, .inl (nF D.2.2.2.2.2.2.2))), (q, .inl (0, n, .inl (nF f))), (q2, .inl (0, n, .inl (nF g)))]) := by
  refine zSp.of (by decide) (Nat.le_of_ble_eq_true rfl) (fun h0 => ?_)
  show zS _ 0 0 0 [(0, .ref z), (1, .ref q), (2, .ref q2)] [] [(z, .inr (10, fPR a sz fa nk oo be ho)), ((a 4), .inr (7, fSta y p s)), (y, .inr (9, fYard ay (ysN D.1 D.2.1))), (ay 1, .inl (0, 12, .inl (nF D.2.2.1))), (ay 2, .inl (0, 12, .inl (nF D.2.2.2.1))), (ay 3, .inl (0, 12, .inl (nF D.2.2.2.2.1))), (ay 4, .inl (0, 12, .inl (nF D.2.2.2.2.2.1))), (ay 5, .inl (0, 64, .inl (nF D.2.2.2.2.2.2.1))), (ay 6, .inl (1, 64, .inl (nF D.2.2.2.2.2.2.2))), (q, .inl (0, n, .inl (nF f))), (q2, .inl (0, n, .inl (nF g)))]
  refine zs_iconst (v := nI 0) dX12_slowestPlace_0 (by decide) ?_
  refine zs_istore_n (lv' := [(3, .int (nI 0)), (0, .ref z), (1, .ref q), (2, .ref q2)]) dX12_slowestPlace_1 (Nat.le_of_ble_eq_true rfl) rfl ?_
  refine zs_iconst (v := nI 1) dX12_slowestPlace_2 (by decide) ?_
  refine zs_istore (lv' := [(4, .int (nI 1)), (3, .int (nI 0)), (0, .ref z), (1, .ref q), (2, .ref q2)]) dX12_slowestPlace_3 (Nat.le_of_ble_eq_true rfl) rfl ?_
  refine zs_lv [2, 3, 4, 1, 0] rfl ?_
  rw [show nI 0 = nI (pSl D f g n 1) from by rw [pSl_1]]
  refine lp_sl z a sz fa nk oo be ho y p s q q2 n ay D f g hd hD hn hf hg ?_ (n - 1) 1 (by omega) (Nat.le_refl _)
  refine zs_iload_n dX12_slowestPlace_39 rfl ?_
  exact zs_iret dX12_slowestPlace_40 rfl ⟨rfl, rfl⟩
theorem dX12_more_0 : decode cX12_more 0 = .ok (.aload_n 0, 1) := by decide +kernel
theorem dX12_more_1 : decode cX12_more 1 = .ok (.iconst 2, 1) := by decide +kernel
theorem dX12_more_2 : decode cX12_more 2 = .ok (.bipush 12, 2) := by decide +kernel
theorem dX12_more_4 : decode cX12_more 4 = .ok (.invokevirtual 193, 3) := by decide +kernel
theorem dX12_more_7 : decode cX12_more 7 = .ok (.astore_n 2, 1) := by decide +kernel
theorem dX12_more_8 : decode cX12_more 8 = .ok (.aload_n 2, 1) := by decide +kernel
theorem dX12_more_9 : decode cX12_more 9 = .ok (.arraylength, 1) := by decide +kernel
theorem dX12_more_10 : decode cX12_more 10 = .ok (.ifCond .eq 13, 3) := by decide +kernel
theorem dX12_more_13 : decode cX12_more 13 = .ok (.iload_n 1, 1) := by decide +kernel
theorem dX12_more_14 : decode cX12_more 14 = .ok (.ifCond .lt 9, 3) := by decide +kernel
theorem dX12_more_17 : decode cX12_more 17 = .ok (.iload_n 1, 1) := by decide +kernel
theorem dX12_more_18 : decode cX12_more 18 = .ok (.bipush 9, 2) := by decide +kernel
theorem dX12_more_20 : decode cX12_more 20 = .ok (.if_icmp .le 5, 3) := by decide +kernel
theorem dX12_more_23 : decode cX12_more 23 = .ok (.iconst (-1), 1) := by decide +kernel
theorem dX12_more_24 : decode cX12_more 24 = .ok (.ireturn, 1) := by decide +kernel
theorem dX12_more_25 : decode cX12_more 25 = .ok (.aload_n 2, 1) := by decide +kernel
theorem dX12_more_26 : decode cX12_more 26 = .ok (.arraylength, 1) := by decide +kernel
theorem dX12_more_27 : decode cX12_more 27 = .ok (.newarray .int, 2) := by decide +kernel
theorem dX12_more_29 : decode cX12_more 29 = .ok (.astore_n 3, 1) := by decide +kernel
theorem dX12_more_30 : decode cX12_more 30 = .ok (.iconst 0, 1) := by decide +kernel
theorem dX12_more_31 : decode cX12_more 31 = .ok (.istore 4, 2) := by decide +kernel
theorem dX12_more_33 : decode cX12_more 33 = .ok (.iload 4, 2) := by decide +kernel
theorem dX12_more_35 : decode cX12_more 35 = .ok (.iload_n 1, 1) := by decide +kernel
theorem dX12_more_36 : decode cX12_more 36 = .ok (.if_icmp .ge 25, 3) := by decide +kernel
theorem dX12_more_39 : decode cX12_more 39 = .ok (.aload_n 0, 1) := by decide +kernel
theorem dX12_more_40 : decode cX12_more 40 = .ok (.aload_n 2, 1) := by decide +kernel
theorem dX12_more_41 : decode cX12_more 41 = .ok (.aload_n 3, 1) := by decide +kernel
theorem dX12_more_42 : decode cX12_more 42 = .ok (.invokevirtual 281, 3) := by decide +kernel
theorem dX12_more_45 : decode cX12_more 45 = .ok (.istore 5, 2) := by decide +kernel
theorem dX12_more_47 : decode cX12_more 47 = .ok (.aload_n 3, 1) := by decide +kernel
theorem dX12_more_48 : decode cX12_more 48 = .ok (.iload 5, 2) := by decide +kernel
theorem dX12_more_50 : decode cX12_more 50 = .ok (.dup2, 1) := by decide +kernel
theorem dX12_more_51 : decode cX12_more 51 = .ok (.iaload, 1) := by decide +kernel
theorem dX12_more_52 : decode cX12_more 52 = .ok (.iconst 1, 1) := by decide +kernel
theorem dX12_more_53 : decode cX12_more 53 = .ok (.iadd, 1) := by decide +kernel
theorem dX12_more_54 : decode cX12_more 54 = .ok (.iastore, 1) := by decide +kernel
theorem dX12_more_55 : decode cX12_more 55 = .ok (.iinc 4 1, 3) := by decide +kernel
theorem dX12_more_58 : decode cX12_more 58 = .ok (.goto (-25), 3) := by decide +kernel
theorem dX12_more_61 : decode cX12_more 61 = .ok (.aload_n 0, 1) := by decide +kernel
theorem dX12_more_62 : decode cX12_more 62 = .ok (.aload_n 3, 1) := by decide +kernel
theorem dX12_more_63 : decode cX12_more 63 = .ok (.putfield 82, 3) := by decide +kernel
theorem dX12_more_66 : decode cX12_more 66 = .ok (.aload_n 0, 1) := by decide +kernel
theorem dX12_more_67 : decode cX12_more 67 = .ok (.aload_n 2, 1) := by decide +kernel
theorem dX12_more_68 : decode cX12_more 68 = .ok (.aload_n 3, 1) := by decide +kernel
theorem dX12_more_69 : decode cX12_more 69 = .ok (.aload_n 0, 1) := by decide +kernel
theorem dX12_more_70 : decode cX12_more 70 = .ok (.aload_n 2, 1) := by decide +kernel
theorem dX12_more_71 : decode cX12_more 71 = .ok (.aload_n 3, 1) := by decide +kernel
theorem dX12_more_72 : decode cX12_more 72 = .ok (.invokevirtual 281, 3) := by decide +kernel
theorem dX12_more_75 : decode cX12_more 75 = .ok (.invokevirtual 285, 3) := by decide +kernel
theorem dX12_more_78 : decode cX12_more 78 = .ok (.ireturn, 1) := by decide +kernel
set_option maxRecDepth 100000 in
theorem lp_more {l : Launch} {dd : Nat} {Po : zPo} {K0 : zK} {h0 : List va_E} {Xo : zK → Prop} {Gc : zG → Prop} (z : Nat) (a : Nat → Nat) (sz fa nk oo be ho : Nat) (y p s : Nat) (ay : Nat → Nat) (D : zYd) (bt : Nat → Nat) (k q q2 : Nat) (hd : 5 ≤ dd) (hsz : sz ≤ 740) (hbt : ∀ j, bt j < 256) (hD : yI D) (hk9 : k ≤ 9) (hM : 2 ≤ (pMn bt sz (D.1 0) 2 12) ∧ (pMn bt sz (D.1 0) 2 12) ≤ 12 ∧ (pMn bt sz (D.1 0) 2 12) = sz ∧ (∀ i, i < (pMn bt sz (D.1 0) 2 12) → bt i < D.1 0) ∧ (∀ i, i < (pMn bt sz (D.1 0) 2 12) → ∀ j, j < i → bt j ≠ bt i))
    (hk : zS (l, mX12_more, dd, Po, K0, h0, Xo, Gc) 0 0 61 [(0, .ref z), (1, .int (nI k)), (2, .ref q), (3, .ref q2)] [] [(z, .inr (10, fPR a 0 fa nk oo be ho)), (a 0, .inl (0, 740, .inl (nF bt))), ((a 4), .inr (7, fSta y p s)), (y, .inr (9, fYard ay (ysN D.1 D.2.1))), (ay 1, .inl (0, 12, .inl (nF D.2.2.1))), (ay 2, .inl (0, 12, .inl (nF D.2.2.2.1))), (ay 3, .inl (0, 12, .inl (nF D.2.2.2.2.1))), (ay 4, .inl (0, 12, .inl (nF D.2.2.2.2.2.1))), (ay 5, .inl (0, 64, .inl (nF D.2.2.2.2.2.2.1))), (ay 6, .inl (1, 64, .inl (nF D.2.2.2.2.2.2.2))), (q, .inl (0, (pMn bt sz (D.1 0) 2 12), .inl (nF (nCl bt (fun _ => 0) (pMn bt sz (D.1 0) 2 12))))), (q2, .inl (0, (pMn bt sz (D.1 0) 2 12), .inl (nF (pOth D (nCl bt (fun _ => 0) (pMn bt sz (D.1 0) 2 12)) (pMn bt sz (D.1 0) 2 12) k))))]) :
    ∀ (m i : Nat) , i + m = k → zS (l, mX12_more, dd, Po, K0, h0, Xo, Gc) 0 0 33 [(0, .ref z), (1, .int (nI k)), (2, .ref q), (3, .ref q2), (4, .int (nI i))] [] [(z, .inr (10, fPR a 0 fa nk oo be ho)), (a 0, .inl (0, 740, .inl (nF bt))), ((a 4), .inr (7, fSta y p s)), (y, .inr (9, fYard ay (ysN D.1 D.2.1))), (ay 1, .inl (0, 12, .inl (nF D.2.2.1))), (ay 2, .inl (0, 12, .inl (nF D.2.2.2.1))), (ay 3, .inl (0, 12, .inl (nF D.2.2.2.2.1))), (ay 4, .inl (0, 12, .inl (nF D.2.2.2.2.2.1))), (ay 5, .inl (0, 64, .inl (nF D.2.2.2.2.2.2.1))), (ay 6, .inl (1, 64, .inl (nF D.2.2.2.2.2.2.2))), (q, .inl (0, (pMn bt sz (D.1 0) 2 12), .inl (nF (nCl bt (fun _ => 0) (pMn bt sz (D.1 0) 2 12))))), (q2, .inl (0, (pMn bt sz (D.1 0) 2 12), .inl (nF (pOth D (nCl bt (fun _ => 0) (pMn bt sz (D.1 0) 2 12)) (pMn bt sz (D.1 0) 2 12) i))))] := by
  intro m
  induction m with
  | zero =>
    intro i hi
    refine zs_iload dX12_more_33 rfl ?_
    refine zs_iload_n dX12_more_35 rfl ?_
    refine zs_icmp_ge (tgt := 61) dX12_more_36 (by decide) (fun c_1 => ?_) (fun c_1 => (c_1 (by rw [show i = k by omega]; exact Int32.le_refl _) : False).elim)
    rw [show i = k by omega]
    refine zs_lv [0, 1, 2, 3] rfl ?_
    exact hk
  | succ m ih =>
    intro i hi
    have hsl := pSl_lt (D := D) (f := (nCl bt (fun _ => 0) (pMn bt sz (D.1 0) 2 12))) (g := (pOth D (nCl bt (fun _ => 0) (pMn bt sz (D.1 0) 2 12)) (pMn bt sz (D.1 0) 2 12) i)) (n := (pMn bt sz (D.1 0) 2 12)) (pMn bt sz (D.1 0) 2 12) (by have := hM.1; omega)
    have hol := pOth_le (D := D) (f := (nCl bt (fun _ => 0) (pMn bt sz (D.1 0) 2 12))) (n := (pMn bt sz (D.1 0) 2 12)) i (pSl D (nCl bt (fun _ => 0) (pMn bt sz (D.1 0) 2 12)) (pOth D (nCl bt (fun _ => 0) (pMn bt sz (D.1 0) 2 12)) (pMn bt sz (D.1 0) 2 12) i) (pMn bt sz (D.1 0) 2 12) (pMn bt sz (D.1 0) 2 12))
    have hM12 := hM.2.1
    refine zs_iload dX12_more_33 rfl ?_
    refine zs_iload_n dX12_more_35 rfl ?_
    refine zs_icmp_ge (tgt := 61) dX12_more_36 (by decide) (fun c_1 => (nI_ge (show i < k by omega) (by omega) c_1 : False).elim) (fun c_1 => ?_)
    refine zs_aload_n dX12_more_39 rfl rfl ?_
    refine zs_aload_n dX12_more_40 rfl rfl ?_
    refine zs_aload_n dX12_more_41 rfl rfl ?_
    refine zs_callV (M := mX12_slowestPlace) (As := [.ref q, .ref q2]) (st := []) (Kc := [(z, .inr (10, fPR a 0 fa nk oo be ho)), ((a 4), .inr (7, fSta y p s)), (y, .inr (9, fYard ay (ysN D.1 D.2.1))), (ay 1, .inl (0, 12, .inl (nF D.2.2.1))), (ay 2, .inl (0, 12, .inl (nF D.2.2.2.1))), (ay 3, .inl (0, 12, .inl (nF D.2.2.2.2.1))), (ay 4, .inl (0, 12, .inl (nF D.2.2.2.2.2.1))), (ay 5, .inl (0, 64, .inl (nF D.2.2.2.2.2.2.1))), (ay 6, .inl (1, 64, .inl (nF D.2.2.2.2.2.2.2))), (q, .inl (0, (pMn bt sz (D.1 0) 2 12), .inl (nF (nCl bt (fun _ => 0) (pMn bt sz (D.1 0) 2 12))))), (q2, .inl (0, (pMn bt sz (D.1 0) 2 12), .inl (nF (pOth D (nCl bt (fun _ => 0) (pMn bt sz (D.1 0) 2 12)) (pMn bt sz (D.1 0) 2 12) i))))]) (Kr := [(a 0, .inl (0, 740, .inl (nF bt)))]) [0, 2, 3, 4, 5, 6, 7, 8, 9, 10, 11] [1] 0 dX12_more_42 zl_RX12_281 kX12_slowestPlace rfl rfl rfl rfl rfl (by decide) rfl rfl (show dd - 1 + 1 ≤ dd by omega) (Nat.zero_le _) (Nat.zero_le _) (Nat.le_of_ble_eq_true rfl) (s_slowest l (dd - 1) z a 0 fa nk oo be ho y p s q q2 (pMn bt sz (D.1 0) 2 12) ay D (nCl bt (fun _ => 0) (pMn bt sz (D.1 0) 2 12)) (pOth D (nCl bt (fun _ => 0) (pMn bt sz (D.1 0) 2 12)) (pMn bt sz (D.1 0) 2 12) i) (by omega) hD ⟨hM.1, hM.2.1⟩ (nCl_f hM.2.2.2.1) (fun j => by have := pOth_le (D := D) (f := (nCl bt (fun _ => 0) (pMn bt sz (D.1 0) 2 12))) (n := (pMn bt sz (D.1 0) 2 12)) i j; omega)) (fun r K1 hr => ?_)
    obtain ⟨rfl, rfl⟩ := hr
    refine zs_K (K' := [(z, .inr (10, fPR a 0 fa nk oo be ho)), (a 0, .inl (0, 740, .inl (nF bt))), ((a 4), .inr (7, fSta y p s)), (y, .inr (9, fYard ay (ysN D.1 D.2.1))), (ay 1, .inl (0, 12, .inl (nF D.2.2.1))), (ay 2, .inl (0, 12, .inl (nF D.2.2.2.1))), (ay 3, .inl (0, 12, .inl (nF D.2.2.2.2.1))), (ay 4, .inl (0, 12, .inl (nF D.2.2.2.2.2.1))), (ay 5, .inl (0, 64, .inl (nF D.2.2.2.2.2.2.1))), (ay 6, .inl (1, 64, .inl (nF D.2.2.2.2.2.2.2))), (q, .inl (0, (pMn bt sz (D.1 0) 2 12), .inl (nF (nCl bt (fun _ => 0) (pMn bt sz (D.1 0) 2 12))))), (q2, .inl (0, (pMn bt sz (D.1 0) 2 12), .inl (nF (pOth D (nCl bt (fun _ => 0) (pMn bt sz (D.1 0) 2 12)) (pMn bt sz (D.1 0) 2 12) i))))]) [1, 0, 2, 3, 4, 5, 6, 7, 8, 9, 10, 11] rfl (by decide) ?_
    refine zs_istore (lv' := [(5, .int (nI (pSl D (nCl bt (fun _ => 0) (pMn bt sz (D.1 0) 2 12)) (pOth D (nCl bt (fun _ => 0) (pMn bt sz (D.1 0) 2 12)) (pMn bt sz (D.1 0) 2 12) i) (pMn bt sz (D.1 0) 2 12) (pMn bt sz (D.1 0) 2 12)))), (0, .ref z), (1, .int (nI k)), (2, .ref q), (3, .ref q2), (4, .int (nI i))]) dX12_more_45 (Nat.le_of_ble_eq_true rfl) rfl ?_
    refine zs_aload_n dX12_more_47 rfl rfl ?_
    refine zs_iload dX12_more_48 rfl ?_
    refine zs_dup2 dX12_more_50 rfl rfl ?_
    refine zs_iald 11 dX12_more_51 rfl (vp_in_nI (by omega) (by omega)) ?_
    refine zs_as (y := nI ((pOth D (nCl bt (fun _ => 0) (pMn bt sz (D.1 0) 2 12)) (pMn bt sz (D.1 0) 2 12) i) (pSl D (nCl bt (fun _ => 0) (pMn bt sz (D.1 0) 2 12)) (pOth D (nCl bt (fun _ => 0) (pMn bt sz (D.1 0) 2 12)) (pMn bt sz (D.1 0) 2 12) i) (pMn bt sz (D.1 0) 2 12) (pMn bt sz (D.1 0) 2 12)))) (by rw [nI_c (n := pSl D (nCl bt (fun _ => 0) (pMn bt sz (D.1 0) 2 12)) (pOth D (nCl bt (fun _ => 0) (pMn bt sz (D.1 0) 2 12)) (pMn bt sz (D.1 0) 2 12) i) (pMn bt sz (D.1 0) 2 12) (pMn bt sz (D.1 0) 2 12)) (by omega)]; rfl) ?_
    refine zs_iconst (v := nI 1) dX12_more_52 (by decide) ?_
    refine zs_iadd dX12_more_53 ?_
    refine zs_as (y := nI (((pOth D (nCl bt (fun _ => 0) (pMn bt sz (D.1 0) 2 12)) (pMn bt sz (D.1 0) 2 12) i) (pSl D (nCl bt (fun _ => 0) (pMn bt sz (D.1 0) 2 12)) (pOth D (nCl bt (fun _ => 0) (pMn bt sz (D.1 0) 2 12)) (pMn bt sz (D.1 0) 2 12) i) (pMn bt sz (D.1 0) 2 12) (pMn bt sz (D.1 0) 2 12))) + 1)) (nI_add _ _) ?_
    refine zs_iast 11 dX12_more_54 rfl (vp_in_nI (by omega) (by omega)) ?_
    rw [nI_c (n := pSl D (nCl bt (fun _ => 0) (pMn bt sz (D.1 0) 2 12)) (pOth D (nCl bt (fun _ => 0) (pMn bt sz (D.1 0) 2 12)) (pMn bt sz (D.1 0) 2 12) i) (pMn bt sz (D.1 0) 2 12) (pMn bt sz (D.1 0) 2 12)) (by omega), nF_u]
    show zS _ _ _ _ _ _ [(z, .inr (10, fPR a 0 fa nk oo be ho)), (a 0, .inl (0, 740, .inl (nF bt))), ((a 4), .inr (7, fSta y p s)), (y, .inr (9, fYard ay (ysN D.1 D.2.1))), (ay 1, .inl (0, 12, .inl (nF D.2.2.1))), (ay 2, .inl (0, 12, .inl (nF D.2.2.2.1))), (ay 3, .inl (0, 12, .inl (nF D.2.2.2.2.1))), (ay 4, .inl (0, 12, .inl (nF D.2.2.2.2.2.1))), (ay 5, .inl (0, 64, .inl (nF D.2.2.2.2.2.2.1))), (ay 6, .inl (1, 64, .inl (nF D.2.2.2.2.2.2.2))), (q, .inl (0, (pMn bt sz (D.1 0) 2 12), .inl (nF (nCl bt (fun _ => 0) (pMn bt sz (D.1 0) 2 12))))), (q2, .inl (0, (pMn bt sz (D.1 0) 2 12), .inl (nF (un (pOth D (nCl bt (fun _ => 0) (pMn bt sz (D.1 0) 2 12)) (pMn bt sz (D.1 0) 2 12) i) (pSl D (nCl bt (fun _ => 0) (pMn bt sz (D.1 0) 2 12)) (pOth D (nCl bt (fun _ => 0) (pMn bt sz (D.1 0) 2 12)) (pMn bt sz (D.1 0) 2 12) i) (pMn bt sz (D.1 0) 2 12) (pMn bt sz (D.1 0) 2 12)) (((pOth D (nCl bt (fun _ => 0) (pMn bt sz (D.1 0) 2 12)) (pMn bt sz (D.1 0) 2 12) i) (pSl D (nCl bt (fun _ => 0) (pMn bt sz (D.1 0) 2 12)) (pOth D (nCl bt (fun _ => 0) (pMn bt sz (D.1 0) 2 12)) (pMn bt sz (D.1 0) 2 12) i) (pMn bt sz (D.1 0) 2 12) (pMn bt sz (D.1 0) 2 12))) + 1)))))]
    refine zs_iinc (v := (nI (i + 1))) (lv' := [(4, .int (nI (i + 1))), (5, .int (nI (pSl D (nCl bt (fun _ => 0) (pMn bt sz (D.1 0) 2 12)) (pOth D (nCl bt (fun _ => 0) (pMn bt sz (D.1 0) 2 12)) (pMn bt sz (D.1 0) 2 12) i) (pMn bt sz (D.1 0) 2 12) (pMn bt sz (D.1 0) 2 12)))), (0, .ref z), (1, .int (nI k)), (2, .ref q), (3, .ref q2)]) dX12_more_55 rfl (nI_add _ 1) (Nat.le_of_ble_eq_true rfl) rfl ?_
    refine zs_goto (tgt := 33) dX12_more_58 (by decide) ?_
    refine zs_lv [2, 3, 4, 5, 0] rfl ?_
    exact ih (i + 1) (by omega)
set_option maxRecDepth 100000 in
theorem s_more (l : Launch) (dd : Nat) (z : Nat) (a : Nat → Nat) (sz fa nk oo be ho : Nat) (y p s : Nat) (ay : Nat → Nat) (D : zYd) (bt : Nat → Nat) (x : Int32) (hd : 6 ≤ dd) (hsz : sz ≤ 740) (hbt : ∀ j, bt j < 256) (hD : yI D) : zSp l mX12_more dd 2 (sz + 12) [.ref z, .int x] [(z, .inr (10, fPR a sz fa nk oo be ho)), (a 0, .inl (0, 740, .inl (nF bt))), ((a 4), .inr (7, fSta y p s)), (y, .inr (9, fYard ay (ysN D.1 D.2.1))), (ay 1, .inl (0, 12, .inl (nF D.2.2.1))), (ay 2, .inl (0, 12, .inl (nF D.2.2.2.1))), (ay 3, .inl (0, 12, .inl (nF D.2.2.2.2.1))), (ay 4, .inl (0, 12, .inl (nF D.2.2.2.2.2.1))), (ay 5, .inl (0, 64, .inl (nF D.2.2.2.2.2.2.1))), (ay 6, .inl (1, 64, .inl (nF D.2.2.2.2.2.2.2)))] (fun r K' => (((pMn bt sz (D.1 0) 2 12) = 0 ∨ x < 0 ∨ nI 9 < x) ∧ r = some (.int (-1)) ∧ K' = [(z, .inr (10, fPR a 0 fa nk oo be ho)), (a 0, .inl (0, 740, .inl (nF bt))), ((a 4), .inr (7, fSta y p s)), (y, .inr (9, fYard ay (ysN D.1 D.2.1))), (ay 1, .inl (0, 12, .inl (nF D.2.2.1))), (ay 2, .inl (0, 12, .inl (nF D.2.2.2.1))), (ay 3, .inl (0, 12, .inl (nF D.2.2.2.2.1))), (ay 4, .inl (0, 12, .inl (nF D.2.2.2.2.2.1))), (ay 5, .inl (0, 64, .inl (nF D.2.2.2.2.2.2.1))), (ay 6, .inl (1, 64, .inl (nF D.2.2.2.2.2.2.2)))]) ∨ (∃ k q2, k ≤ 9 ∧ x = nI k ∧ ¬ (pMn bt sz (D.1 0) 2 12) = 0 ∧ r = some (.int (nI (nSh D (nCl bt (fun _ => 0) (pMn bt sz (D.1 0) 2 12)) (pOth D (nCl bt (fun _ => 0) (pMn bt sz (D.1 0) 2 12)) (pMn bt sz (D.1 0) 2 12) k) (pMn bt sz (D.1 0) 2 12) (pSl D (nCl bt (fun _ => 0) (pMn bt sz (D.1 0) 2 12)) (pOth D (nCl bt (fun _ => 0) (pMn bt sz (D.1 0) 2 12)) (pMn bt sz (D.1 0) 2 12) k) (pMn bt sz (D.1 0) 2 12) (pMn bt sz (D.1 0) 2 12))))) ∧ K' = [(z, .inr (10, fPR a 0 fa nk oo q2 ho)), (a 0, .inl (0, 740, .inl (nF bt))), ((a 4), .inr (7, fSta y p s)), (y, .inr (9, fYard ay (ysN D.1 D.2.1))), (ay 1, .inl (0, 12, .inl (nF D.2.2.1))), (ay 2, .inl (0, 12, .inl (nF D.2.2.2.1))), (ay 3, .inl (0, 12, .inl (nF D.2.2.2.2.1))), (ay 4, .inl (0, 12, .inl (nF D.2.2.2.2.2.1))), (ay 5, .inl (0, 64, .inl (nF D.2.2.2.2.2.2.1))), (ay 6, .inl (1, 64, .inl (nF D.2.2.2.2.2.2.2))), (q2, .inl (0, (pMn bt sz (D.1 0) 2 12), .inl (nF (pOth D (nCl bt (fun _ => 0) (pMn bt sz (D.1 0) 2 12)) (pMn bt sz (D.1 0) 2 12) k))))])) := by
  refine zSp.of (by decide) (Nat.le_of_ble_eq_true rfl) (fun h0 => ?_)
  show zS _ 2 (sz + 12) 0 [(0, .ref z), (1, .int x)] [] [(z, .inr (10, fPR a sz fa nk oo be ho)), (a 0, .inl (0, 740, .inl (nF bt))), ((a 4), .inr (7, fSta y p s)), (y, .inr (9, fYard ay (ysN D.1 D.2.1))), (ay 1, .inl (0, 12, .inl (nF D.2.2.1))), (ay 2, .inl (0, 12, .inl (nF D.2.2.2.1))), (ay 3, .inl (0, 12, .inl (nF D.2.2.2.2.1))), (ay 4, .inl (0, 12, .inl (nF D.2.2.2.2.2.1))), (ay 5, .inl (0, 64, .inl (nF D.2.2.2.2.2.2.1))), (ay 6, .inl (1, 64, .inl (nF D.2.2.2.2.2.2.2)))]
  obtain ⟨y1, y2, y3, y4, y5, y6, y7, y8, y9, y10, y11, y12, y13, y14, y15, y16, y17, y18, y19, y20⟩ := id hD
  refine zs_aload_n dX12_more_0 rfl rfl ?_
  refine zs_iconst (v := nI 2) dX12_more_1 (by decide) ?_
  refine zs_bipush (v := nI 12) dX12_more_2 (by decide) ?_
  have hMle : (pMn bt sz (D.1 0) 2 12) ≤ 12 := pMn_le
  refine zs_callV (M := mX12_takeMen) (As := [.int (nI 2), .int (nI 12)]) (st := []) (Kc := [(z, .inr (10, fPR a sz fa nk oo be ho)), (a 0, .inl (0, 740, .inl (nF bt))), ((a 4), .inr (7, fSta y p s)), (y, .inr (9, fYard ay (ysN D.1 D.2.1)))]) (Kr := [(ay 1, .inl (0, 12, .inl (nF D.2.2.1))), (ay 2, .inl (0, 12, .inl (nF D.2.2.2.1))), (ay 3, .inl (0, 12, .inl (nF D.2.2.2.2.1))), (ay 4, .inl (0, 12, .inl (nF D.2.2.2.2.2.1))), (ay 5, .inl (0, 64, .inl (nF D.2.2.2.2.2.2.1))), (ay 6, .inl (1, 64, .inl (nF D.2.2.2.2.2.2.2)))]) [0, 1, 2, 3] [4, 5, 6, 7, 8, 9] 0 dX12_more_4 zl_RX12_193 kX12_takeMen rfl rfl rfl rfl rfl (by decide) rfl rfl (show dd - 1 + 1 ≤ dd by omega) (by omega) (by omega) (Nat.le_of_ble_eq_true rfl) (s_takeMen l (dd - 1) z a sz fa nk oo be ho bt y p s ay D 2 12 (by omega) hsz (by omega) (by omega) (by omega) hbt) (fun r K1 hr => ?_)
  obtain ⟨q, rfl, rfl⟩ := hr
  refine zs_K (K' := [(z, .inr (10, fPR a 0 fa nk oo be ho)), (a 0, .inl (0, 740, .inl (nF bt))), ((a 4), .inr (7, fSta y p s)), (y, .inr (9, fYard ay (ysN D.1 D.2.1))), (ay 1, .inl (0, 12, .inl (nF D.2.2.1))), (ay 2, .inl (0, 12, .inl (nF D.2.2.2.1))), (ay 3, .inl (0, 12, .inl (nF D.2.2.2.2.1))), (ay 4, .inl (0, 12, .inl (nF D.2.2.2.2.2.1))), (ay 5, .inl (0, 64, .inl (nF D.2.2.2.2.2.2.1))), (ay 6, .inl (1, 64, .inl (nF D.2.2.2.2.2.2.2))), (q, .inl (0, (pMn bt sz (D.1 0) 2 12), .inl (nF (nCl bt (fun _ => 0) (pMn bt sz (D.1 0) 2 12)))))]) [6, 7, 8, 9, 0, 1, 2, 3, 4, 5, 10] rfl (by decide) ?_
  refine zs_astore_n (lv' := [(2, .ref q), (0, .ref z), (1, .int x)]) dX12_more_7 (Nat.le_of_ble_eq_true rfl) rfl rfl ?_
  refine zs_aload_n dX12_more_8 rfl rfl ?_
  refine zs_alen (v := (nI (pMn bt sz (D.1 0) 2 12))) 10 dX12_more_9 rfl (by decide) rfl ?_
  refine zs_if_eq (tgt := 23) dX12_more_10 (by decide) (fun c_1 => ?_) (fun c_1 => ?_)
  · have c_1 : (pMn bt sz (D.1 0) 2 12) = 0 := by have hc := c_1; rw [show (0 : Int32) = nI 0 from rfl] at hc; rw [nI_eq' (by omega) (by omega)] at hc; exact hc
    refine zs_iconst (v := (-1)) dX12_more_23 (by decide) ?_
    refine zs_K (K' := [(z, .inr (10, fPR a 0 fa nk oo be ho)), (a 0, .inl (0, 740, .inl (nF bt))), ((a 4), .inr (7, fSta y p s)), (y, .inr (9, fYard ay (ysN D.1 D.2.1))), (ay 1, .inl (0, 12, .inl (nF D.2.2.1))), (ay 2, .inl (0, 12, .inl (nF D.2.2.2.1))), (ay 3, .inl (0, 12, .inl (nF D.2.2.2.2.1))), (ay 4, .inl (0, 12, .inl (nF D.2.2.2.2.2.1))), (ay 5, .inl (0, 64, .inl (nF D.2.2.2.2.2.2.1))), (ay 6, .inl (1, 64, .inl (nF D.2.2.2.2.2.2.2)))]) [0, 1, 2, 3, 4, 5, 6, 7, 8, 9] rfl (by decide) ?_
    exact zs_iret dX12_more_24 rfl (Or.inl ⟨Or.inl c_1, rfl, rfl⟩)
  · have c_1 : ¬ ((pMn bt sz (D.1 0) 2 12) = 0) := by have hc := c_1; rw [show (0 : Int32) = nI 0 from rfl] at hc; rw [nI_eq' (by omega) (by omega)] at hc; exact hc
    refine zs_iload_n dX12_more_13 rfl ?_
    refine zs_if_lt (tgt := 23) dX12_more_14 (by decide) (fun c_2 => ?_) (fun c_2 => ?_)
    · refine zs_iconst (v := (-1)) dX12_more_23 (by decide) ?_
      refine zs_K (K' := [(z, .inr (10, fPR a 0 fa nk oo be ho)), (a 0, .inl (0, 740, .inl (nF bt))), ((a 4), .inr (7, fSta y p s)), (y, .inr (9, fYard ay (ysN D.1 D.2.1))), (ay 1, .inl (0, 12, .inl (nF D.2.2.1))), (ay 2, .inl (0, 12, .inl (nF D.2.2.2.1))), (ay 3, .inl (0, 12, .inl (nF D.2.2.2.2.1))), (ay 4, .inl (0, 12, .inl (nF D.2.2.2.2.2.1))), (ay 5, .inl (0, 64, .inl (nF D.2.2.2.2.2.2.1))), (ay 6, .inl (1, 64, .inl (nF D.2.2.2.2.2.2.2)))]) [0, 1, 2, 3, 4, 5, 6, 7, 8, 9] rfl (by decide) ?_
      exact zs_iret dX12_more_24 rfl (Or.inl ⟨Or.inr (Or.inl c_2), rfl, rfl⟩)
    · refine zs_iload_n dX12_more_17 rfl ?_
      refine zs_bipush (v := nI 9) dX12_more_18 (by decide) ?_
      refine zs_icmp_le (tgt := 25) dX12_more_20 (by decide) (fun c_3 => ?_) (fun c_3 => ?_)
      · obtain ⟨k, hk, rfl⟩ := zi_nn c_2
        have hk9 : k ≤ 9 := by have h := c_3; first | omega | (rw [nI_le' (by omega) (by omega)] at h; exact h)
        have hM := pMn_k c_1
        refine zs_aload_n dX12_more_25 rfl rfl ?_
        refine zs_alen (v := (nI (pMn bt sz (D.1 0) 2 12))) 10 dX12_more_26 rfl (by decide) rfl ?_
        refine zs_newa_int (N := (pMn bt sz (D.1 0) 2 12)) dX12_more_27 (fun h => absurd h (by rw [show (0 : Int32) = nI 0 from rfl, nI_lt' (by omega) (by omega)]; omega)) (nI_c (by omega)) (by omega) (by first | omega | (simp only [List.length_cons, List.length_nil]; omega)) (by first | omega | (simp only [List.length_cons, List.length_nil]; omega)) (fun q2 => ?_)
        show zS _ _ _ _ _ _ [(z, .inr (10, fPR a 0 fa nk oo be ho)), (a 0, .inl (0, 740, .inl (nF bt))), ((a 4), .inr (7, fSta y p s)), (y, .inr (9, fYard ay (ysN D.1 D.2.1))), (ay 1, .inl (0, 12, .inl (nF D.2.2.1))), (ay 2, .inl (0, 12, .inl (nF D.2.2.2.1))), (ay 3, .inl (0, 12, .inl (nF D.2.2.2.2.1))), (ay 4, .inl (0, 12, .inl (nF D.2.2.2.2.2.1))), (ay 5, .inl (0, 64, .inl (nF D.2.2.2.2.2.2.1))), (ay 6, .inl (1, 64, .inl (nF D.2.2.2.2.2.2.2))), (q, .inl (0, (pMn bt sz (D.1 0) 2 12), .inl (nF (nCl bt (fun _ => 0) (pMn bt sz (D.1 0) 2 12))))), (q2, .inl (0, (pMn bt sz (D.1 0) 2 12), .inl (fun _ => 0)))]
        refine zs_astore_n (lv' := [(3, .ref q2), (2, .ref q), (0, .ref z), (1, .int (nI k))]) dX12_more_29 (Nat.le_of_ble_eq_true rfl) rfl rfl ?_
        refine zs_iconst (v := nI 0) dX12_more_30 (by decide) ?_
        refine zs_istore (lv' := [(4, .int (nI 0)), (3, .ref q2), (2, .ref q), (0, .ref z), (1, .int (nI k))]) dX12_more_31 (Nat.le_of_ble_eq_true rfl) rfl ?_
        refine zs_kc (Nat.zero_le _) (Nat.zero_le _) (?_ : zS _ 0 0 _ _ _ _)
        refine zs_lv [3, 4, 2, 1, 0] rfl ?_
        refine lp_more z a sz fa nk oo be ho y p s ay D bt k q q2 (by omega) hsz hbt hD hk9 hM ?_ k 0 (Nat.zero_add _)
        refine zs_aload_n dX12_more_61 rfl rfl ?_
        refine zs_aload_n dX12_more_62 rfl rfl ?_
        refine zs_put 0 dX12_more_63 zf_RX12_82 rfl (Nat.le_of_ble_eq_true rfl) (zPv_a rfl) ?_
        show zS _ _ _ _ _ _ [(z, .inr (10, fPR a 0 fa nk oo q2 ho)), (a 0, .inl (0, 740, .inl (nF bt))), ((a 4), .inr (7, fSta y p s)), (y, .inr (9, fYard ay (ysN D.1 D.2.1))), (ay 1, .inl (0, 12, .inl (nF D.2.2.1))), (ay 2, .inl (0, 12, .inl (nF D.2.2.2.1))), (ay 3, .inl (0, 12, .inl (nF D.2.2.2.2.1))), (ay 4, .inl (0, 12, .inl (nF D.2.2.2.2.2.1))), (ay 5, .inl (0, 64, .inl (nF D.2.2.2.2.2.2.1))), (ay 6, .inl (1, 64, .inl (nF D.2.2.2.2.2.2.2))), (q, .inl (0, (pMn bt sz (D.1 0) 2 12), .inl (nF (nCl bt (fun _ => 0) (pMn bt sz (D.1 0) 2 12))))), (q2, .inl (0, (pMn bt sz (D.1 0) 2 12), .inl (nF (pOth D (nCl bt (fun _ => 0) (pMn bt sz (D.1 0) 2 12)) (pMn bt sz (D.1 0) 2 12) k))))]
        refine zs_aload_n dX12_more_66 rfl rfl ?_
        refine zs_aload_n dX12_more_67 rfl rfl ?_
        refine zs_aload_n dX12_more_68 rfl rfl ?_
        refine zs_aload_n dX12_more_69 rfl rfl ?_
        refine zs_aload_n dX12_more_70 rfl rfl ?_
        refine zs_aload_n dX12_more_71 rfl rfl ?_
        refine zs_callV (M := mX12_slowestPlace) (As := [.ref q, .ref q2]) (st := [.ref q2, .ref q, .ref z]) (Kc := [(z, .inr (10, fPR a 0 fa nk oo q2 ho)), ((a 4), .inr (7, fSta y p s)), (y, .inr (9, fYard ay (ysN D.1 D.2.1))), (ay 1, .inl (0, 12, .inl (nF D.2.2.1))), (ay 2, .inl (0, 12, .inl (nF D.2.2.2.1))), (ay 3, .inl (0, 12, .inl (nF D.2.2.2.2.1))), (ay 4, .inl (0, 12, .inl (nF D.2.2.2.2.2.1))), (ay 5, .inl (0, 64, .inl (nF D.2.2.2.2.2.2.1))), (ay 6, .inl (1, 64, .inl (nF D.2.2.2.2.2.2.2))), (q, .inl (0, (pMn bt sz (D.1 0) 2 12), .inl (nF (nCl bt (fun _ => 0) (pMn bt sz (D.1 0) 2 12))))), (q2, .inl (0, (pMn bt sz (D.1 0) 2 12), .inl (nF (pOth D (nCl bt (fun _ => 0) (pMn bt sz (D.1 0) 2 12)) (pMn bt sz (D.1 0) 2 12) k))))]) (Kr := [(a 0, .inl (0, 740, .inl (nF bt)))]) [0, 2, 3, 4, 5, 6, 7, 8, 9, 10, 11] [1] 0 dX12_more_72 zl_RX12_281 kX12_slowestPlace rfl rfl rfl rfl rfl (by decide) rfl rfl (show dd - 1 + 1 ≤ dd by omega) (Nat.zero_le _) (Nat.zero_le _) (Nat.le_of_ble_eq_true rfl) (s_slowest l (dd - 1) z a 0 fa nk oo q2 ho y p s q q2 (pMn bt sz (D.1 0) 2 12) ay D (nCl bt (fun _ => 0) (pMn bt sz (D.1 0) 2 12)) (pOth D (nCl bt (fun _ => 0) (pMn bt sz (D.1 0) 2 12)) (pMn bt sz (D.1 0) 2 12) k) (by omega) hD ⟨hM.1, hM.2.1⟩ (nCl_f hM.2.2.2.1) (fun j => by have := pOth_le (D := D) (f := (nCl bt (fun _ => 0) (pMn bt sz (D.1 0) 2 12))) (n := (pMn bt sz (D.1 0) 2 12)) k j; omega)) (fun r K1 hr => ?_)
        obtain ⟨rfl, rfl⟩ := hr
        refine zs_K (K' := [(z, .inr (10, fPR a 0 fa nk oo q2 ho)), (a 0, .inl (0, 740, .inl (nF bt))), ((a 4), .inr (7, fSta y p s)), (y, .inr (9, fYard ay (ysN D.1 D.2.1))), (ay 1, .inl (0, 12, .inl (nF D.2.2.1))), (ay 2, .inl (0, 12, .inl (nF D.2.2.2.1))), (ay 3, .inl (0, 12, .inl (nF D.2.2.2.2.1))), (ay 4, .inl (0, 12, .inl (nF D.2.2.2.2.2.1))), (ay 5, .inl (0, 64, .inl (nF D.2.2.2.2.2.2.1))), (ay 6, .inl (1, 64, .inl (nF D.2.2.2.2.2.2.2))), (q, .inl (0, (pMn bt sz (D.1 0) 2 12), .inl (nF (nCl bt (fun _ => 0) (pMn bt sz (D.1 0) 2 12))))), (q2, .inl (0, (pMn bt sz (D.1 0) 2 12), .inl (nF (pOth D (nCl bt (fun _ => 0) (pMn bt sz (D.1 0) 2 12)) (pMn bt sz (D.1 0) 2 12) k))))]) [1, 0, 2, 3, 4, 5, 6, 7, 8, 9, 10, 11] rfl (by decide) ?_
        refine zs_callV (M := mX12_sharedTime) (As := [.ref q, .ref q2, .int (nI (pSl D (nCl bt (fun _ => 0) (pMn bt sz (D.1 0) 2 12)) (pOth D (nCl bt (fun _ => 0) (pMn bt sz (D.1 0) 2 12)) (pMn bt sz (D.1 0) 2 12) k) (pMn bt sz (D.1 0) 2 12) (pMn bt sz (D.1 0) 2 12)))]) (st := []) (Kc := [(z, .inr (10, fPR a 0 fa nk oo q2 ho)), ((a 4), .inr (7, fSta y p s)), (y, .inr (9, fYard ay (ysN D.1 D.2.1))), (ay 1, .inl (0, 12, .inl (nF D.2.2.1))), (ay 2, .inl (0, 12, .inl (nF D.2.2.2.1))), (ay 3, .inl (0, 12, .inl (nF D.2.2.2.2.1))), (ay 4, .inl (0, 12, .inl (nF D.2.2.2.2.2.1))), (ay 5, .inl (0, 64, .inl (nF D.2.2.2.2.2.2.1))), (ay 6, .inl (1, 64, .inl (nF D.2.2.2.2.2.2.2))), (q, .inl (0, (pMn bt sz (D.1 0) 2 12), .inl (nF (nCl bt (fun _ => 0) (pMn bt sz (D.1 0) 2 12))))), (q2, .inl (0, (pMn bt sz (D.1 0) 2 12), .inl (nF (pOth D (nCl bt (fun _ => 0) (pMn bt sz (D.1 0) 2 12)) (pMn bt sz (D.1 0) 2 12) k))))]) (Kr := [(a 0, .inl (0, 740, .inl (nF bt)))]) [0, 2, 3, 4, 5, 6, 7, 8, 9, 10, 11] [1] 0 dX12_more_75 zl_RX12_285 kX12_sharedTime rfl rfl rfl rfl rfl (by decide) rfl rfl (show dd - 1 + 1 ≤ dd by omega) (Nat.zero_le _) (Nat.zero_le _) (Nat.le_of_ble_eq_true rfl) (s_sharedTime l (dd - 1) z a 0 fa nk oo q2 ho y p s q q2 (pMn bt sz (D.1 0) 2 12) ay D (nCl bt (fun _ => 0) (pMn bt sz (D.1 0) 2 12)) (pOth D (nCl bt (fun _ => 0) (pMn bt sz (D.1 0) 2 12)) (pMn bt sz (D.1 0) 2 12) k) (pSl D (nCl bt (fun _ => 0) (pMn bt sz (D.1 0) 2 12)) (pOth D (nCl bt (fun _ => 0) (pMn bt sz (D.1 0) 2 12)) (pMn bt sz (D.1 0) 2 12) k) (pMn bt sz (D.1 0) 2 12) (pMn bt sz (D.1 0) 2 12)) (by omega) hD ⟨hM.1, hM.2.1⟩ (nCl_f hM.2.2.2.1) (fun j => by have := pOth_le (D := D) (f := (nCl bt (fun _ => 0) (pMn bt sz (D.1 0) 2 12))) (n := (pMn bt sz (D.1 0) 2 12)) k j; omega) (pSl_lt (pMn bt sz (D.1 0) 2 12) (by have := hM.1; omega))) (fun r K1 hr => ?_)
        obtain ⟨rfl, rfl⟩ := hr
        refine zs_K (K' := [(z, .inr (10, fPR a 0 fa nk oo q2 ho)), (a 0, .inl (0, 740, .inl (nF bt))), ((a 4), .inr (7, fSta y p s)), (y, .inr (9, fYard ay (ysN D.1 D.2.1))), (ay 1, .inl (0, 12, .inl (nF D.2.2.1))), (ay 2, .inl (0, 12, .inl (nF D.2.2.2.1))), (ay 3, .inl (0, 12, .inl (nF D.2.2.2.2.1))), (ay 4, .inl (0, 12, .inl (nF D.2.2.2.2.2.1))), (ay 5, .inl (0, 64, .inl (nF D.2.2.2.2.2.2.1))), (ay 6, .inl (1, 64, .inl (nF D.2.2.2.2.2.2.2))), (q, .inl (0, (pMn bt sz (D.1 0) 2 12), .inl (nF (nCl bt (fun _ => 0) (pMn bt sz (D.1 0) 2 12))))), (q2, .inl (0, (pMn bt sz (D.1 0) 2 12), .inl (nF (pOth D (nCl bt (fun _ => 0) (pMn bt sz (D.1 0) 2 12)) (pMn bt sz (D.1 0) 2 12) k))))]) [1, 0, 2, 3, 4, 5, 6, 7, 8, 9, 10, 11] rfl (by decide) ?_
        refine zs_K (K' := [(z, .inr (10, fPR a 0 fa nk oo q2 ho)), (a 0, .inl (0, 740, .inl (nF bt))), ((a 4), .inr (7, fSta y p s)), (y, .inr (9, fYard ay (ysN D.1 D.2.1))), (ay 1, .inl (0, 12, .inl (nF D.2.2.1))), (ay 2, .inl (0, 12, .inl (nF D.2.2.2.1))), (ay 3, .inl (0, 12, .inl (nF D.2.2.2.2.1))), (ay 4, .inl (0, 12, .inl (nF D.2.2.2.2.2.1))), (ay 5, .inl (0, 64, .inl (nF D.2.2.2.2.2.2.1))), (ay 6, .inl (1, 64, .inl (nF D.2.2.2.2.2.2.2))), (q2, .inl (0, (pMn bt sz (D.1 0) 2 12), .inl (nF (pOth D (nCl bt (fun _ => 0) (pMn bt sz (D.1 0) 2 12)) (pMn bt sz (D.1 0) 2 12) k))))]) [0, 1, 2, 3, 4, 5, 6, 7, 8, 9, 11] rfl (by decide) ?_
        exact zs_iret dX12_more_78 rfl (Or.inr ⟨k, q2, hk9, rfl, c_1, rfl, rfl⟩)
      · refine zs_iconst (v := (-1)) dX12_more_23 (by decide) ?_
        refine zs_K (K' := [(z, .inr (10, fPR a 0 fa nk oo be ho)), (a 0, .inl (0, 740, .inl (nF bt))), ((a 4), .inr (7, fSta y p s)), (y, .inr (9, fYard ay (ysN D.1 D.2.1))), (ay 1, .inl (0, 12, .inl (nF D.2.2.1))), (ay 2, .inl (0, 12, .inl (nF D.2.2.2.1))), (ay 3, .inl (0, 12, .inl (nF D.2.2.2.2.1))), (ay 4, .inl (0, 12, .inl (nF D.2.2.2.2.2.1))), (ay 5, .inl (0, 64, .inl (nF D.2.2.2.2.2.2.1))), (ay 6, .inl (1, 64, .inl (nF D.2.2.2.2.2.2.2)))]) [0, 1, 2, 3, 4, 5, 6, 7, 8, 9] rfl (by decide) ?_
        exact zs_iret dX12_more_24 rfl (Or.inl ⟨Or.inr (Or.inr (Int32.not_le.mp c_3)), rfl, rfl⟩)
