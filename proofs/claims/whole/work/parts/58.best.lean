/-! ===== the class itself: best ===== -/
theorem dX12_best_0 : decode cX12_best 0 = .ok (.aload_n 0, 1) := by decide +kernel
theorem dX12_best_1 : decode cX12_best 1 = .ok (.iconst 2, 1) := by decide +kernel
theorem dX12_best_2 : decode cX12_best 2 = .ok (.bipush 7, 2) := by decide +kernel
theorem dX12_best_4 : decode cX12_best 4 = .ok (.invokevirtual 193, 3) := by decide +kernel
theorem dX12_best_7 : decode cX12_best 7 = .ok (.astore_n 1, 1) := by decide +kernel
theorem dX12_best_8 : decode cX12_best 8 = .ok (.aload_n 1, 1) := by decide +kernel
theorem dX12_best_9 : decode cX12_best 9 = .ok (.arraylength, 1) := by decide +kernel
theorem dX12_best_10 : decode cX12_best 10 = .ok (.ifCond .ne 5, 3) := by decide +kernel
theorem dX12_best_13 : decode cX12_best 13 = .ok (.iconst (-1), 1) := by decide +kernel
theorem dX12_best_14 : decode cX12_best 14 = .ok (.ireturn, 1) := by decide +kernel
theorem dX12_best_15 : decode cX12_best 15 = .ok (.aload_n 1, 1) := by decide +kernel
theorem dX12_best_16 : decode cX12_best 16 = .ok (.invokestatic 248, 3) := by decide +kernel
theorem dX12_best_19 : decode cX12_best 19 = .ok (.ldc 254, 2) := by decide +kernel
theorem dX12_best_21 : decode cX12_best 21 = .ok (.istore_n 2, 1) := by decide +kernel
theorem dX12_best_22 : decode cX12_best 22 = .ok (.aload_n 1, 1) := by decide +kernel
theorem dX12_best_23 : decode cX12_best 23 = .ok (.arraylength, 1) := by decide +kernel
theorem dX12_best_24 : decode cX12_best 24 = .ok (.newarray .int, 2) := by decide +kernel
theorem dX12_best_26 : decode cX12_best 26 = .ok (.astore_n 3, 1) := by decide +kernel
theorem dX12_best_27 : decode cX12_best 27 = .ok (.aload_n 1, 1) := by decide +kernel
theorem dX12_best_28 : decode cX12_best 28 = .ok (.arraylength, 1) := by decide +kernel
theorem dX12_best_29 : decode cX12_best 29 = .ok (.newarray .int, 2) := by decide +kernel
theorem dX12_best_31 : decode cX12_best 31 = .ok (.astore 4, 2) := by decide +kernel
theorem dX12_best_33 : decode cX12_best 33 = .ok (.iconst 0, 1) := by decide +kernel
theorem dX12_best_34 : decode cX12_best 34 = .ok (.istore 5, 2) := by decide +kernel
theorem dX12_best_36 : decode cX12_best 36 = .ok (.iload 5, 2) := by decide +kernel
theorem dX12_best_38 : decode cX12_best 38 = .ok (.aload_n 1, 1) := by decide +kernel
theorem dX12_best_39 : decode cX12_best 39 = .ok (.arraylength, 1) := by decide +kernel
theorem dX12_best_40 : decode cX12_best 40 = .ok (.if_icmp .ge 71, 3) := by decide +kernel
theorem dX12_best_43 : decode cX12_best 43 = .ok (.aload_n 1, 1) := by decide +kernel
theorem dX12_best_44 : decode cX12_best 44 = .ok (.arraylength, 1) := by decide +kernel
theorem dX12_best_45 : decode cX12_best 45 = .ok (.iconst 1, 1) := by decide +kernel
theorem dX12_best_46 : decode cX12_best 46 = .ok (.isub, 1) := by decide +kernel
theorem dX12_best_47 : decode cX12_best 47 = .ok (.istore 6, 2) := by decide +kernel
theorem dX12_best_49 : decode cX12_best 49 = .ok (.iload 6, 2) := by decide +kernel
theorem dX12_best_51 : decode cX12_best 51 = .ok (.ifCond .lt 54, 3) := by decide +kernel
theorem dX12_best_54 : decode cX12_best 54 = .ok (.iload 6, 2) := by decide +kernel
theorem dX12_best_56 : decode cX12_best 56 = .ok (.iload 5, 2) := by decide +kernel
theorem dX12_best_58 : decode cX12_best 58 = .ok (.if_icmp .ne 6, 3) := by decide +kernel
theorem dX12_best_61 : decode cX12_best 61 = .ok (.goto 38, 3) := by decide +kernel
theorem dX12_best_64 : decode cX12_best 64 = .ok (.aload_n 1, 1) := by decide +kernel
theorem dX12_best_65 : decode cX12_best 65 = .ok (.iload 5, 2) := by decide +kernel
theorem dX12_best_67 : decode cX12_best 67 = .ok (.iload 6, 2) := by decide +kernel
theorem dX12_best_69 : decode cX12_best 69 = .ok (.aload_n 3, 1) := by decide +kernel
theorem dX12_best_70 : decode cX12_best 70 = .ok (.invokestatic 255, 3) := by decide +kernel
theorem dX12_best_73 : decode cX12_best 73 = .ok (.aload_n 0, 1) := by decide +kernel
theorem dX12_best_74 : decode cX12_best 74 = .ok (.aload_n 3, 1) := by decide +kernel
theorem dX12_best_75 : decode cX12_best 75 = .ok (.invokevirtual 234, 3) := by decide +kernel
theorem dX12_best_78 : decode cX12_best 78 = .ok (.istore 7, 2) := by decide +kernel
theorem dX12_best_80 : decode cX12_best 80 = .ok (.iload 7, 2) := by decide +kernel
theorem dX12_best_82 : decode cX12_best 82 = .ok (.iload_n 2, 1) := by decide +kernel
theorem dX12_best_83 : decode cX12_best 83 = .ok (.if_icmp .ge 16, 3) := by decide +kernel
theorem dX12_best_86 : decode cX12_best 86 = .ok (.iload 7, 2) := by decide +kernel
theorem dX12_best_88 : decode cX12_best 88 = .ok (.istore_n 2, 1) := by decide +kernel
theorem dX12_best_89 : decode cX12_best 89 = .ok (.aload_n 3, 1) := by decide +kernel
theorem dX12_best_90 : decode cX12_best 90 = .ok (.iconst 0, 1) := by decide +kernel
theorem dX12_best_91 : decode cX12_best 91 = .ok (.aload 4, 2) := by decide +kernel
theorem dX12_best_93 : decode cX12_best 93 = .ok (.iconst 0, 1) := by decide +kernel
theorem dX12_best_94 : decode cX12_best 94 = .ok (.aload_n 3, 1) := by decide +kernel
theorem dX12_best_95 : decode cX12_best 95 = .ok (.arraylength, 1) := by decide +kernel
theorem dX12_best_96 : decode cX12_best 96 = .ok (.invokestatic 259, 3) := by decide +kernel
theorem dX12_best_99 : decode cX12_best 99 = .ok (.iinc 6 (-1), 3) := by decide +kernel
theorem dX12_best_102 : decode cX12_best 102 = .ok (.goto (-53), 3) := by decide +kernel
theorem dX12_best_105 : decode cX12_best 105 = .ok (.iinc 5 1, 3) := by decide +kernel
theorem dX12_best_108 : decode cX12_best 108 = .ok (.goto (-72), 3) := by decide +kernel
theorem dX12_best_111 : decode cX12_best 111 = .ok (.aload_n 0, 1) := by decide +kernel
theorem dX12_best_112 : decode cX12_best 112 = .ok (.aload 4, 2) := by decide +kernel
theorem dX12_best_114 : decode cX12_best 114 = .ok (.putfield 79, 3) := by decide +kernel
theorem dX12_best_117 : decode cX12_best 117 = .ok (.iload_n 2, 1) := by decide +kernel
theorem dX12_best_118 : decode cX12_best 118 = .ok (.ireturn, 1) := by decide +kernel
theorem nCl_inj {bt : Nat → Nat} {n : Nat} (h : ∀ i, i < n → ∀ j, j < i → bt j ≠ bt i) : ∀ i, i < n → ∀ j, j < n → nCl bt (fun _ => 0) n i = nCl bt (fun _ => 0) n j → i = j := fun i hi j hj e => by
  rw [nCl_s hi, nCl_s hj] at e
  by_cases h1 : i < j
  · exact absurd e (h j hj i h1)
  · by_cases h2 : j < i
    · exact absurd e.symm (h i hi j h2)
    · omega
theorem nCl_nC2 (f g h : Nat → Nat) (n : Nat) : nCl (nCl f g n) h n = nCl f h n := by
  funext j
  unfold nCl
  split <;> rfl
set_option maxRecDepth 100000 in
theorem lp_be1 {l : Launch} {dd : Nat} {Po : zPo} {K0 : zK} {h0 : List va_E} {Xo : zK → Prop} {Gc : zG → Prop} (z : Nat) (a : Nat → Nat) (sz fa nk oo be ho : Nat) (y p s : Nat) (ay : Nat → Nat) (D : zYd) (bt : Nat → Nat) (q q3 q4 n : Nat) (g : Nat → Nat) (d : Nat) (hd : 4 ≤ dd) (hD : yI D) (hn : 2 ≤ n ∧ n ≤ 7) (hg : ∀ i, i < n → g i < D.1 0) (hdn : d < n) (W : Nat × (Nat → Nat)) (hk : ∀ (st : Nat × (Nat → Nat)) (tr : Nat → Nat), W = st → st.1 ≤ 2147483647 → zS (l, mX12_best, dd, Po, K0, h0, Xo, Gc) 0 0 105 [(0, .ref z), (1, .ref q), (2, .int (nI st.1)), (3, .ref q3), (4, .ref q4), (5, .int (nI d)), (6, .int (-1))] [] [(z, .inr (10, fPR a 0 fa nk oo be ho)), (a 0, .inl (0, 740, .inl (nF bt))), ((a 4), .inr (7, fSta y p s)), (y, .inr (9, fYard ay (ysN D.1 D.2.1))), (ay 1, .inl (0, 12, .inl (nF D.2.2.1))), (ay 2, .inl (0, 12, .inl (nF D.2.2.2.1))), (ay 3, .inl (0, 12, .inl (nF D.2.2.2.2.1))), (ay 4, .inl (0, 12, .inl (nF D.2.2.2.2.2.1))), (ay 5, .inl (0, 64, .inl (nF D.2.2.2.2.2.2.1))), (ay 6, .inl (1, 64, .inl (nF D.2.2.2.2.2.2.2))), (q, .inl (0, n, .inl (nF g))), (q3, .inl (0, n, .inl (nF tr))), (q4, .inl (0, n, .inl (nF st.2)))]) : ∀ (j : Nat) (st : Nat × (Nat → Nat)) (tr : Nat → Nat), j ≤ n → st.1 ≤ 2147483647 → bT D g n d j st = W → zS (l, mX12_best, dd, Po, K0, h0, Xo, Gc) 0 0 49 [(0, .ref z), (1, .ref q), (2, .int (nI st.1)), (3, .ref q3), (4, .ref q4), (5, .int (nI d)), (6, .int (dI j))] [] [(z, .inr (10, fPR a 0 fa nk oo be ho)), (a 0, .inl (0, 740, .inl (nF bt))), ((a 4), .inr (7, fSta y p s)), (y, .inr (9, fYard ay (ysN D.1 D.2.1))), (ay 1, .inl (0, 12, .inl (nF D.2.2.1))), (ay 2, .inl (0, 12, .inl (nF D.2.2.2.1))), (ay 3, .inl (0, 12, .inl (nF D.2.2.2.2.1))), (ay 4, .inl (0, 12, .inl (nF D.2.2.2.2.2.1))), (ay 5, .inl (0, 64, .inl (nF D.2.2.2.2.2.2.1))), (ay 6, .inl (1, 64, .inl (nF D.2.2.2.2.2.2.2))), (q, .inl (0, n, .inl (nF g))), (q3, .inl (0, n, .inl (nF tr))), (q4, .inl (0, n, .inl (nF st.2)))] := by
  obtain ⟨y1, y2, y3, y4, y5, y6, y7, y8, y9, y10, y11, y12, y13, y14, y15, y16, y17, y18, y19, y20⟩ := id hD
  intro j
  induction j with
  | zero =>
    intro st tr hjn hle hG
    show zS (l, mX12_best, dd, Po, K0, h0, Xo, Gc) 0 0 49 [(0, .ref z), (1, .ref q), (2, .int (nI st.1)), (3, .ref q3), (4, .ref q4), (5, .int (nI d)), (6, .int (-1))] [] [(z, .inr (10, fPR a 0 fa nk oo be ho)), (a 0, .inl (0, 740, .inl (nF bt))), ((a 4), .inr (7, fSta y p s)), (y, .inr (9, fYard ay (ysN D.1 D.2.1))), (ay 1, .inl (0, 12, .inl (nF D.2.2.1))), (ay 2, .inl (0, 12, .inl (nF D.2.2.2.1))), (ay 3, .inl (0, 12, .inl (nF D.2.2.2.2.1))), (ay 4, .inl (0, 12, .inl (nF D.2.2.2.2.2.1))), (ay 5, .inl (0, 64, .inl (nF D.2.2.2.2.2.2.1))), (ay 6, .inl (1, 64, .inl (nF D.2.2.2.2.2.2.2))), (q, .inl (0, n, .inl (nF g))), (q3, .inl (0, n, .inl (nF tr))), (q4, .inl (0, n, .inl (nF st.2)))]
    refine zs_iload dX12_best_49 rfl ?_
    refine zs_if_lt (tgt := 105) dX12_best_51 (by decide) (fun c_1 => ?_) (fun c_1 => (c_1 (by decide) : False).elim)
    refine zs_lv [0, 1, 2, 3, 4, 5, 6] rfl ?_
    exact hk st tr hG.symm hle
  | succ j ih =>
    intro st tr hjn hle hG
    show zS (l, mX12_best, dd, Po, K0, h0, Xo, Gc) 0 0 49 [(0, .ref z), (1, .ref q), (2, .int (nI st.1)), (3, .ref q3), (4, .ref q4), (5, .int (nI d)), (6, .int (nI j))] [] [(z, .inr (10, fPR a 0 fa nk oo be ho)), (a 0, .inl (0, 740, .inl (nF bt))), ((a 4), .inr (7, fSta y p s)), (y, .inr (9, fYard ay (ysN D.1 D.2.1))), (ay 1, .inl (0, 12, .inl (nF D.2.2.1))), (ay 2, .inl (0, 12, .inl (nF D.2.2.2.1))), (ay 3, .inl (0, 12, .inl (nF D.2.2.2.2.1))), (ay 4, .inl (0, 12, .inl (nF D.2.2.2.2.2.1))), (ay 5, .inl (0, 64, .inl (nF D.2.2.2.2.2.2.1))), (ay 6, .inl (1, 64, .inl (nF D.2.2.2.2.2.2.2))), (q, .inl (0, n, .inl (nF g))), (q3, .inl (0, n, .inl (nF tr))), (q4, .inl (0, n, .inl (nF st.2)))]
    refine zs_iload dX12_best_49 rfl ?_
    refine zs_if_lt (tgt := 105) dX12_best_51 (by decide) (fun c_1 => (absurd c_1 (by rw [show (0 : Int32) = nI 0 from rfl, nI_lt' (by omega) (by omega)]; omega) : False).elim) (fun c_1 => ?_)
    refine zs_iload dX12_best_54 rfl ?_
    refine zs_iload dX12_best_56 rfl ?_
    refine zs_icmp_ne (tgt := 64) dX12_best_58 (by decide) (fun c_2 => ?_) (fun c_2 => ?_)
    · have c_2 : ¬ (j = d) := by have hc := c_2; rw [nI_eq' (by omega) (by omega)] at hc; exact hc
      have hdj : d ≠ j := fun e => c_2 e.symm
      refine zs_aload_n dX12_best_64 rfl rfl ?_
      refine zs_iload dX12_best_65 rfl ?_
      refine zs_iload dX12_best_67 rfl ?_
      refine zs_aload_n dX12_best_69 rfl rfl ?_
      refine zs_callS (M := mX12_arrange) (As := [.ref q, .int (nI d), .int (nI j), .ref q3]) (st := []) (Kc := [(q, .inl (0, n, .inl (nF g))), (q3, .inl (0, n, .inl (nF tr)))]) (Kr := [(z, .inr (10, fPR a 0 fa nk oo be ho)), (a 0, .inl (0, 740, .inl (nF bt))), ((a 4), .inr (7, fSta y p s)), (y, .inr (9, fYard ay (ysN D.1 D.2.1))), (ay 1, .inl (0, 12, .inl (nF D.2.2.1))), (ay 2, .inl (0, 12, .inl (nF D.2.2.2.1))), (ay 3, .inl (0, 12, .inl (nF D.2.2.2.2.1))), (ay 4, .inl (0, 12, .inl (nF D.2.2.2.2.2.1))), (ay 5, .inl (0, 64, .inl (nF D.2.2.2.2.2.2.1))), (ay 6, .inl (1, 64, .inl (nF D.2.2.2.2.2.2.2))), (q4, .inl (0, n, .inl (nF st.2)))]) [10, 11] [0, 1, 2, 3, 4, 5, 6, 7, 8, 9, 12] dX12_best_70 zl_RX12_255 kX12_arrange rfl rfl rfl rfl rfl (by decide) (show dd - 1 + 1 ≤ dd by omega) (Nat.zero_le _) (Nat.zero_le _) (Nat.le_of_ble_eq_true rfl) (s_arrange l (dd - 1) q q3 n d j g tr ⟨hn.1, by omega⟩ hdj (by omega) (by omega) (fun i hi => by have := hg i hi; omega)) (fun r K1 hr => ?_)
      obtain ⟨rfl, rfl⟩ := hr
      refine zs_K (K' := [(z, .inr (10, fPR a 0 fa nk oo be ho)), (a 0, .inl (0, 740, .inl (nF bt))), ((a 4), .inr (7, fSta y p s)), (y, .inr (9, fYard ay (ysN D.1 D.2.1))), (ay 1, .inl (0, 12, .inl (nF D.2.2.1))), (ay 2, .inl (0, 12, .inl (nF D.2.2.2.1))), (ay 3, .inl (0, 12, .inl (nF D.2.2.2.2.1))), (ay 4, .inl (0, 12, .inl (nF D.2.2.2.2.2.1))), (ay 5, .inl (0, 64, .inl (nF D.2.2.2.2.2.2.1))), (ay 6, .inl (1, 64, .inl (nF D.2.2.2.2.2.2.2))), (q, .inl (0, n, .inl (nF g))), (q3, .inl (0, n, .inl (nF (nCl (arrF g n d j) tr n)))), (q4, .inl (0, n, .inl (nF st.2)))]) [0, 1, 2, 3, 4, 5, 6, 7, 8, 9, 11, 12, 10] rfl (by decide) ?_
      refine zs_aload_n dX12_best_73 rfl rfl ?_
      refine zs_aload_n dX12_best_74 rfl rfl ?_
      refine zs_callV (M := mX12_periodOf) (As := [.ref q3]) (st := []) (Kc := [(z, .inr (10, fPR a 0 fa nk oo be ho)), ((a 4), .inr (7, fSta y p s)), (y, .inr (9, fYard ay (ysN D.1 D.2.1))), (ay 1, .inl (0, 12, .inl (nF D.2.2.1))), (ay 2, .inl (0, 12, .inl (nF D.2.2.2.1))), (ay 3, .inl (0, 12, .inl (nF D.2.2.2.2.1))), (ay 4, .inl (0, 12, .inl (nF D.2.2.2.2.2.1))), (ay 5, .inl (0, 64, .inl (nF D.2.2.2.2.2.2.1))), (ay 6, .inl (1, 64, .inl (nF D.2.2.2.2.2.2.2))), (q3, .inl (0, n, .inl (nF (nCl (arrF g n d j) tr n))))]) (Kr := [(a 0, .inl (0, 740, .inl (nF bt))), (q, .inl (0, n, .inl (nF g))), (q4, .inl (0, n, .inl (nF st.2)))]) [0, 2, 3, 4, 5, 6, 7, 8, 9, 11] [1, 10, 12] 0 dX12_best_75 zl_RX12_234 kX12_periodOf rfl rfl rfl rfl rfl (by decide) rfl rfl (show dd - 1 + 1 ≤ dd by omega) (Nat.zero_le _) (Nat.zero_le _) (Nat.le_of_ble_eq_true rfl) (s_periodOf l (dd - 1) z a 0 fa nk oo be ho y p s q3 n ay D (nCl (arrF g n d j) tr n) (by omega) hD ⟨hn.1, by omega⟩ (fun i hi => by rw [nCl_s hi]; exact arrF_lt hdj (by omega) (by omega) hg i hi)) (fun r K1 hr => ?_)
      rw [pPd_c (D := D) (f := (nCl (arrF g n d j) tr n)) (g := (arrF g n d j)) n (fun i hi => nCl_s hi)] at hr
      obtain ⟨rfl, rfl⟩ := hr
      refine zs_K (K' := [(z, .inr (10, fPR a 0 fa nk oo be ho)), (a 0, .inl (0, 740, .inl (nF bt))), ((a 4), .inr (7, fSta y p s)), (y, .inr (9, fYard ay (ysN D.1 D.2.1))), (ay 1, .inl (0, 12, .inl (nF D.2.2.1))), (ay 2, .inl (0, 12, .inl (nF D.2.2.2.1))), (ay 3, .inl (0, 12, .inl (nF D.2.2.2.2.1))), (ay 4, .inl (0, 12, .inl (nF D.2.2.2.2.2.1))), (ay 5, .inl (0, 64, .inl (nF D.2.2.2.2.2.2.1))), (ay 6, .inl (1, 64, .inl (nF D.2.2.2.2.2.2.2))), (q, .inl (0, n, .inl (nF g))), (q3, .inl (0, n, .inl (nF (nCl (arrF g n d j) tr n)))), (q4, .inl (0, n, .inl (nF st.2)))]) [3, 0, 4, 5, 6, 7, 8, 9, 10, 11, 1, 12, 2] rfl (by decide) ?_
      refine zs_istore (lv' := [(7, .int (nI (pPd D (arrF g n d j) n n))), (0, .ref z), (1, .ref q), (2, .int (nI st.1)), (3, .ref q3), (4, .ref q4), (5, .int (nI d)), (6, .int (nI j))]) dX12_best_78 (Nat.le_of_ble_eq_true rfl) rfl ?_
      have hpd := pPd_le (f := (arrF g n d j)) hD hn.1 n
      refine zs_iload dX12_best_80 rfl ?_
      refine zs_iload_n dX12_best_82 rfl ?_
      refine zs_icmp_ge (tgt := 99) dX12_best_83 (by decide) (fun c_3 => ?_) (fun c_3 => ?_)
      · have c_3 : st.1 ≤ (pPd D (arrF g n d j) n n) := by have hc := c_3; rw [nI_le' (by omega) (by omega)] at hc; exact hc
        refine zs_iinc (v := (dI j)) (lv' := [(6, .int (dI j)), (7, .int (nI (pPd D (arrF g n d j) n n))), (0, .ref z), (1, .ref q), (2, .int (nI st.1)), (3, .ref q3), (4, .ref q4), (5, .int (nI d))]) dX12_best_99 rfl (dI_s j) (Nat.le_of_ble_eq_true rfl) rfl ?_
        refine zs_goto (tgt := 49) dX12_best_102 (by decide) ?_
        refine zs_lv [2, 3, 4, 5, 6, 7, 0] rfl ?_
        refine ih (st.1, st.2) (nCl (arrF g n d j) tr n) (by omega) ?_ ?_
        · first | exact hle | (show pPd D (arrF g n d j) n n ≤ 2147483647; omega)
        · rw [← hG, bT, if_neg c_2, if_neg (show ¬ pPd D (arrF g n d j) n n < st.1 by omega)]
      · have c_3 : ¬ (st.1 ≤ (pPd D (arrF g n d j) n n)) := by have hc := c_3; rw [nI_le' (by omega) (by omega)] at hc; exact hc
        refine zs_iload dX12_best_86 rfl ?_
        refine zs_istore_n (lv' := [(2, .int (nI (pPd D (arrF g n d j) n n))), (7, .int (nI (pPd D (arrF g n d j) n n))), (0, .ref z), (1, .ref q), (3, .ref q3), (4, .ref q4), (5, .int (nI d)), (6, .int (nI j))]) dX12_best_88 (Nat.le_of_ble_eq_true rfl) rfl ?_
        refine zs_aload_n dX12_best_89 rfl rfl ?_
        refine zs_iconst (v := nI 0) dX12_best_90 (by decide) ?_
        refine zs_aload dX12_best_91 rfl rfl ?_
        refine zs_iconst (v := nI 0) dX12_best_93 (by decide) ?_
        refine zs_aload_n dX12_best_94 rfl rfl ?_
        refine zs_alen (v := (nI n)) 11 dX12_best_95 rfl (by decide) rfl ?_
        refine zs_copy 11 12 dX12_best_96 zl_RX12_259 zcpy1 zcpy2 zcpy3 (show 1 ≤ dd by omega) (Nat.le_of_ble_eq_true rfl) rfl rfl (by decide) (by decide) (fun h => absurd h (by rw [show (0 : Int32) = nI 0 from rfl, nI_lt' (by omega) (by omega)]; omega)) (by rw [nI_c (n := n) (by omega)]; exact Nat.le_of_eq (Nat.zero_add n)) (by rw [nI_c (n := n) (by omega)]; exact Nat.le_of_eq (Nat.zero_add n)) ?_
        show zS _ _ _ _ _ _ [(z, .inr (10, fPR a 0 fa nk oo be ho)), (a 0, .inl (0, 740, .inl (nF bt))), ((a 4), .inr (7, fSta y p s)), (y, .inr (9, fYard ay (ysN D.1 D.2.1))), (ay 1, .inl (0, 12, .inl (nF D.2.2.1))), (ay 2, .inl (0, 12, .inl (nF D.2.2.2.1))), (ay 3, .inl (0, 12, .inl (nF D.2.2.2.2.1))), (ay 4, .inl (0, 12, .inl (nF D.2.2.2.2.2.1))), (ay 5, .inl (0, 64, .inl (nF D.2.2.2.2.2.2.1))), (ay 6, .inl (1, 64, .inl (nF D.2.2.2.2.2.2.2))), (q, .inl (0, n, .inl (nF g))), (q3, .inl (0, n, .inl (nF (nCl (arrF g n d j) tr n)))), (q4, .inl (0, n, .inl (va_cpy (nF (nCl (arrF g n d j) tr n)) (nF st.2) (nI 0).toNatClampNeg (nI 0).toNatClampNeg (nI n).toNatClampNeg)))]
        rw [show (nI 0).toNatClampNeg = 0 from rfl, nI_c (n := n) (by omega), va_cpy_0, pCl_nF, nCl_nC2]
        show zS _ _ _ _ _ _ [(z, .inr (10, fPR a 0 fa nk oo be ho)), (a 0, .inl (0, 740, .inl (nF bt))), ((a 4), .inr (7, fSta y p s)), (y, .inr (9, fYard ay (ysN D.1 D.2.1))), (ay 1, .inl (0, 12, .inl (nF D.2.2.1))), (ay 2, .inl (0, 12, .inl (nF D.2.2.2.1))), (ay 3, .inl (0, 12, .inl (nF D.2.2.2.2.1))), (ay 4, .inl (0, 12, .inl (nF D.2.2.2.2.2.1))), (ay 5, .inl (0, 64, .inl (nF D.2.2.2.2.2.2.1))), (ay 6, .inl (1, 64, .inl (nF D.2.2.2.2.2.2.2))), (q, .inl (0, n, .inl (nF g))), (q3, .inl (0, n, .inl (nF (nCl (arrF g n d j) tr n)))), (q4, .inl (0, n, .inl (nF (nCl (arrF g n d j) st.2 n))))]
        refine zs_iinc (v := (dI j)) (lv' := [(6, .int (dI j)), (2, .int (nI (pPd D (arrF g n d j) n n))), (7, .int (nI (pPd D (arrF g n d j) n n))), (0, .ref z), (1, .ref q), (3, .ref q3), (4, .ref q4), (5, .int (nI d))]) dX12_best_99 rfl (dI_s j) (Nat.le_of_ble_eq_true rfl) rfl ?_
        refine zs_goto (tgt := 49) dX12_best_102 (by decide) ?_
        refine zs_lv [3, 4, 1, 5, 6, 7, 0] rfl ?_
        refine ih (pPd D (arrF g n d j) n n, nCl (arrF g n d j) st.2 n) (nCl (arrF g n d j) tr n) (by omega) ?_ ?_
        · first | exact hle | (show pPd D (arrF g n d j) n n ≤ 2147483647; omega)
        · rw [← hG, bT, if_neg c_2, if_pos (show pPd D (arrF g n d j) n n < st.1 by omega)]
    · have c_2 : j = d := by have hc := c_2; rw [nI_eq' (by omega) (by omega)] at hc; exact hc
      refine zs_goto (tgt := 99) dX12_best_61 (by decide) ?_
      refine zs_iinc (v := (dI j)) (lv' := [(6, .int (dI j)), (0, .ref z), (1, .ref q), (2, .int (nI st.1)), (3, .ref q3), (4, .ref q4), (5, .int (nI d))]) dX12_best_99 rfl (dI_s j) (Nat.le_of_ble_eq_true rfl) rfl ?_
      refine zs_goto (tgt := 49) dX12_best_102 (by decide) ?_
      refine zs_lv [1, 2, 3, 4, 5, 6, 0] rfl ?_
      refine ih (st.1, st.2) tr (by omega) ?_ ?_
      · first | exact hle | (show pPd D (arrF g n d j) n n ≤ 2147483647; omega)
      · rw [← hG, bT, if_pos c_2]
set_option maxRecDepth 100000 in
theorem lp_be2 {l : Launch} {dd : Nat} {Po : zPo} {K0 : zK} {h0 : List va_E} {Xo : zK → Prop} {Gc : zG → Prop} (z : Nat) (a : Nat → Nat) (sz fa nk oo be ho : Nat) (y p s : Nat) (ay : Nat → Nat) (D : zYd) (bt : Nat → Nat) (q q3 q4 n : Nat) (g : Nat → Nat) (hd : 4 ≤ dd) (hD : yI D) (hn : 2 ≤ n ∧ n ≤ 7) (hg : ∀ i, i < n → g i < D.1 0) (W : Nat × (Nat → Nat)) (hP : ∀ r K', (r = some (.int (nI W.1)) ∧ K' = [(z, .inr (10, fPR a 0 fa nk q4 be ho)), (a 0, .inl (0, 740, .inl (nF bt))), ((a 4), .inr (7, fSta y p s)), (y, .inr (9, fYard ay (ysN D.1 D.2.1))), (ay 1, .inl (0, 12, .inl (nF D.2.2.1))), (ay 2, .inl (0, 12, .inl (nF D.2.2.2.1))), (ay 3, .inl (0, 12, .inl (nF D.2.2.2.2.1))), (ay 4, .inl (0, 12, .inl (nF D.2.2.2.2.2.1))), (ay 5, .inl (0, 64, .inl (nF D.2.2.2.2.2.2.1))), (ay 6, .inl (1, 64, .inl (nF D.2.2.2.2.2.2.2))), (q4, .inl (0, n, .inl (nF (W.2))))]) → Po r K') : ∀ (m d : Nat) (st : Nat × (Nat → Nat)) (tr : Nat → Nat), d + m = n → st.1 ≤ 2147483647 → bO D g n m d st = W → zS (l, mX12_best, dd, Po, K0, h0, Xo, Gc) 0 0 36 [(0, .ref z), (1, .ref q), (2, .int (nI st.1)), (3, .ref q3), (4, .ref q4), (5, .int (nI d))] [] [(z, .inr (10, fPR a 0 fa nk oo be ho)), (a 0, .inl (0, 740, .inl (nF bt))), ((a 4), .inr (7, fSta y p s)), (y, .inr (9, fYard ay (ysN D.1 D.2.1))), (ay 1, .inl (0, 12, .inl (nF D.2.2.1))), (ay 2, .inl (0, 12, .inl (nF D.2.2.2.1))), (ay 3, .inl (0, 12, .inl (nF D.2.2.2.2.1))), (ay 4, .inl (0, 12, .inl (nF D.2.2.2.2.2.1))), (ay 5, .inl (0, 64, .inl (nF D.2.2.2.2.2.2.1))), (ay 6, .inl (1, 64, .inl (nF D.2.2.2.2.2.2.2))), (q, .inl (0, n, .inl (nF g))), (q3, .inl (0, n, .inl (nF tr))), (q4, .inl (0, n, .inl (nF st.2)))] := by
  intro m
  induction m with
  | zero =>
    intro d st tr hm hle hG
    refine zs_iload dX12_best_36 rfl ?_
    refine zs_aload_n dX12_best_38 rfl rfl ?_
    refine zs_alen (v := (nI n)) 10 dX12_best_39 rfl (by decide) rfl ?_
    refine zs_icmp_ge (tgt := 111) dX12_best_40 (by decide) (fun c_1 => ?_) (fun c_1 => (c_1 (by rw [show d = n by omega]; exact Int32.le_refl _) : False).elim)
    refine zs_aload_n dX12_best_111 rfl rfl ?_
    refine zs_aload dX12_best_112 rfl rfl ?_
    refine zs_put 0 dX12_best_114 zf_RX12_79 rfl (Nat.le_of_ble_eq_true rfl) (zPv_a rfl) ?_
    show zS _ _ _ _ _ _ [(z, .inr (10, fPR a 0 fa nk q4 be ho)), (a 0, .inl (0, 740, .inl (nF bt))), ((a 4), .inr (7, fSta y p s)), (y, .inr (9, fYard ay (ysN D.1 D.2.1))), (ay 1, .inl (0, 12, .inl (nF D.2.2.1))), (ay 2, .inl (0, 12, .inl (nF D.2.2.2.1))), (ay 3, .inl (0, 12, .inl (nF D.2.2.2.2.1))), (ay 4, .inl (0, 12, .inl (nF D.2.2.2.2.2.1))), (ay 5, .inl (0, 64, .inl (nF D.2.2.2.2.2.2.1))), (ay 6, .inl (1, 64, .inl (nF D.2.2.2.2.2.2.2))), (q, .inl (0, n, .inl (nF g))), (q3, .inl (0, n, .inl (nF tr))), (q4, .inl (0, n, .inl (nF st.2)))]
    refine zs_iload_n dX12_best_117 rfl ?_
    refine zs_K (K' := [(z, .inr (10, fPR a 0 fa nk q4 be ho)), (a 0, .inl (0, 740, .inl (nF bt))), ((a 4), .inr (7, fSta y p s)), (y, .inr (9, fYard ay (ysN D.1 D.2.1))), (ay 1, .inl (0, 12, .inl (nF D.2.2.1))), (ay 2, .inl (0, 12, .inl (nF D.2.2.2.1))), (ay 3, .inl (0, 12, .inl (nF D.2.2.2.2.1))), (ay 4, .inl (0, 12, .inl (nF D.2.2.2.2.2.1))), (ay 5, .inl (0, 64, .inl (nF D.2.2.2.2.2.2.1))), (ay 6, .inl (1, 64, .inl (nF D.2.2.2.2.2.2.2))), (q4, .inl (0, n, .inl (nF st.2)))]) [0, 1, 2, 3, 4, 5, 6, 7, 8, 9, 12] rfl (by decide) ?_
    exact zs_iret dX12_best_118 rfl (hP _ _ ⟨by rw [← hG]; rfl, by rw [← hG]; rfl⟩)
  | succ m ih =>
    intro d st tr hm hle hG
    refine zs_iload dX12_best_36 rfl ?_
    refine zs_aload_n dX12_best_38 rfl rfl ?_
    refine zs_alen (v := (nI n)) 10 dX12_best_39 rfl (by decide) rfl ?_
    refine zs_icmp_ge (tgt := 111) dX12_best_40 (by decide) (fun c_1 => (nI_ge (show d < n by omega) (by omega) c_1 : False).elim) (fun c_1 => ?_)
    refine zs_aload_n dX12_best_43 rfl rfl ?_
    refine zs_alen (v := (nI n)) 10 dX12_best_44 rfl (by decide) rfl ?_
    refine zs_iconst (v := nI 1) dX12_best_45 (by decide) ?_
    refine zs_isub dX12_best_46 ?_
    refine zs_as (y := nI (n - 1)) (nI_sub (by omega)) ?_
    refine zs_istore (lv' := [(6, .int (nI (n - 1))), (0, .ref z), (1, .ref q), (2, .int (nI st.1)), (3, .ref q3), (4, .ref q4), (5, .int (nI d))]) dX12_best_47 (Nat.le_of_ble_eq_true rfl) rfl ?_
    refine zs_lv [1, 2, 3, 4, 5, 6, 0] rfl ?_
    rw [show nI (n - 1) = dI n from by cases n with | zero => exact absurd hn.1 (by decide) | succ n => rfl]
    refine lp_be1 z a sz fa nk oo be ho y p s ay D bt q q3 q4 n g d hd hD hn hg (by omega) (bT D g n d n st) (fun st2 tr2 hW2 hle2 => ?_) n st tr (Nat.le_refl _) hle rfl
    refine zs_iinc (v := (nI (d + 1))) (lv' := [(5, .int (nI (d + 1))), (0, .ref z), (1, .ref q), (2, .int (nI st2.1)), (3, .ref q3), (4, .ref q4), (6, .int (-1))]) dX12_best_105 rfl (nI_add _ 1) (Nat.le_of_ble_eq_true rfl) rfl ?_
    refine zs_goto (tgt := 36) dX12_best_108 (by decide) ?_
    refine zs_lv [1, 2, 3, 4, 5, 0] rfl ?_
    exact ih (d + 1) st2 tr2 (by omega) hle2 (by rw [← hG, bO, hW2])
set_option maxRecDepth 100000 in
theorem s_best (l : Launch) (dd : Nat) (z : Nat) (a : Nat → Nat) (sz fa nk oo be ho : Nat) (y p s : Nat) (ay : Nat → Nat) (D : zYd) (bt : Nat → Nat) (hd : 5 ≤ dd) (hsz : sz ≤ 740) (hbt : ∀ j, bt j < 256) (hD : yI D) : zSp l mX12_best dd 3 (sz + 24) [.ref z] [(z, .inr (10, fPR a sz fa nk oo be ho)), (a 0, .inl (0, 740, .inl (nF bt))), ((a 4), .inr (7, fSta y p s)), (y, .inr (9, fYard ay (ysN D.1 D.2.1))), (ay 1, .inl (0, 12, .inl (nF D.2.2.1))), (ay 2, .inl (0, 12, .inl (nF D.2.2.2.1))), (ay 3, .inl (0, 12, .inl (nF D.2.2.2.2.1))), (ay 4, .inl (0, 12, .inl (nF D.2.2.2.2.2.1))), (ay 5, .inl (0, 64, .inl (nF D.2.2.2.2.2.2.1))), (ay 6, .inl (1, 64, .inl (nF D.2.2.2.2.2.2.2)))] (fun r K' => ((pMn bt sz (D.1 0) 2 7) = 0 ∧ r = some (.int (-1)) ∧ K' = [(z, .inr (10, fPR a 0 fa nk oo be ho)), (a 0, .inl (0, 740, .inl (nF bt))), ((a 4), .inr (7, fSta y p s)), (y, .inr (9, fYard ay (ysN D.1 D.2.1))), (ay 1, .inl (0, 12, .inl (nF D.2.2.1))), (ay 2, .inl (0, 12, .inl (nF D.2.2.2.1))), (ay 3, .inl (0, 12, .inl (nF D.2.2.2.2.1))), (ay 4, .inl (0, 12, .inl (nF D.2.2.2.2.2.1))), (ay 5, .inl (0, 64, .inl (nF D.2.2.2.2.2.2.1))), (ay 6, .inl (1, 64, .inl (nF D.2.2.2.2.2.2.2)))]) ∨ (∃ (g : Nat → Nat) (q4 : Nat), ¬ (pMn bt sz (D.1 0) 2 7) = 0 ∧ pRm (pMn bt sz (D.1 0) 2 7) (nCl bt (fun _ => 0) (pMn bt sz (D.1 0) 2 7)) g ∧ rSt g (pMn bt sz (D.1 0) 2 7) ∧ r = some (.int (nI (bO D g (pMn bt sz (D.1 0) 2 7) (pMn bt sz (D.1 0) 2 7) 0 (2147483647, fun _ => 0)).1)) ∧ K' = [(z, .inr (10, fPR a 0 fa nk q4 be ho)), (a 0, .inl (0, 740, .inl (nF bt))), ((a 4), .inr (7, fSta y p s)), (y, .inr (9, fYard ay (ysN D.1 D.2.1))), (ay 1, .inl (0, 12, .inl (nF D.2.2.1))), (ay 2, .inl (0, 12, .inl (nF D.2.2.2.1))), (ay 3, .inl (0, 12, .inl (nF D.2.2.2.2.1))), (ay 4, .inl (0, 12, .inl (nF D.2.2.2.2.2.1))), (ay 5, .inl (0, 64, .inl (nF D.2.2.2.2.2.2.1))), (ay 6, .inl (1, 64, .inl (nF D.2.2.2.2.2.2.2))), (q4, .inl (0, (pMn bt sz (D.1 0) 2 7), .inl (nF ((bO D g (pMn bt sz (D.1 0) 2 7) (pMn bt sz (D.1 0) 2 7) 0 (2147483647, fun _ => 0)).2))))])) := by
  refine zSp.of (by decide) (Nat.le_of_ble_eq_true rfl) (fun h0 => ?_)
  show zS _ 3 (sz + 24) 0 [(0, .ref z)] [] [(z, .inr (10, fPR a sz fa nk oo be ho)), (a 0, .inl (0, 740, .inl (nF bt))), ((a 4), .inr (7, fSta y p s)), (y, .inr (9, fYard ay (ysN D.1 D.2.1))), (ay 1, .inl (0, 12, .inl (nF D.2.2.1))), (ay 2, .inl (0, 12, .inl (nF D.2.2.2.1))), (ay 3, .inl (0, 12, .inl (nF D.2.2.2.2.1))), (ay 4, .inl (0, 12, .inl (nF D.2.2.2.2.2.1))), (ay 5, .inl (0, 64, .inl (nF D.2.2.2.2.2.2.1))), (ay 6, .inl (1, 64, .inl (nF D.2.2.2.2.2.2.2)))]
  obtain ⟨y1, y2, y3, y4, y5, y6, y7, y8, y9, y10, y11, y12, y13, y14, y15, y16, y17, y18, y19, y20⟩ := id hD
  refine zs_aload_n dX12_best_0 rfl rfl ?_
  refine zs_iconst (v := nI 2) dX12_best_1 (by decide) ?_
  refine zs_bipush (v := nI 7) dX12_best_2 (by decide) ?_
  have hMle : (pMn bt sz (D.1 0) 2 7) ≤ 7 := pMn_le
  refine zs_callV (M := mX12_takeMen) (As := [.int (nI 2), .int (nI 7)]) (st := []) (Kc := [(z, .inr (10, fPR a sz fa nk oo be ho)), (a 0, .inl (0, 740, .inl (nF bt))), ((a 4), .inr (7, fSta y p s)), (y, .inr (9, fYard ay (ysN D.1 D.2.1)))]) (Kr := [(ay 1, .inl (0, 12, .inl (nF D.2.2.1))), (ay 2, .inl (0, 12, .inl (nF D.2.2.2.1))), (ay 3, .inl (0, 12, .inl (nF D.2.2.2.2.1))), (ay 4, .inl (0, 12, .inl (nF D.2.2.2.2.2.1))), (ay 5, .inl (0, 64, .inl (nF D.2.2.2.2.2.2.1))), (ay 6, .inl (1, 64, .inl (nF D.2.2.2.2.2.2.2)))]) [0, 1, 2, 3] [4, 5, 6, 7, 8, 9] 0 dX12_best_4 zl_RX12_193 kX12_takeMen rfl rfl rfl rfl rfl (by decide) rfl rfl (show dd - 1 + 1 ≤ dd by omega) (by omega) (by omega) (Nat.le_of_ble_eq_true rfl) (s_takeMen l (dd - 1) z a sz fa nk oo be ho bt y p s ay D 2 7 (by omega) hsz (by omega) (by omega) (by omega) hbt) (fun r K1 hr => ?_)
  obtain ⟨q, rfl, rfl⟩ := hr
  refine zs_K (K' := [(z, .inr (10, fPR a 0 fa nk oo be ho)), (a 0, .inl (0, 740, .inl (nF bt))), ((a 4), .inr (7, fSta y p s)), (y, .inr (9, fYard ay (ysN D.1 D.2.1))), (ay 1, .inl (0, 12, .inl (nF D.2.2.1))), (ay 2, .inl (0, 12, .inl (nF D.2.2.2.1))), (ay 3, .inl (0, 12, .inl (nF D.2.2.2.2.1))), (ay 4, .inl (0, 12, .inl (nF D.2.2.2.2.2.1))), (ay 5, .inl (0, 64, .inl (nF D.2.2.2.2.2.2.1))), (ay 6, .inl (1, 64, .inl (nF D.2.2.2.2.2.2.2))), (q, .inl (0, (pMn bt sz (D.1 0) 2 7), .inl (nF (nCl bt (fun _ => 0) (pMn bt sz (D.1 0) 2 7)))))]) [6, 7, 8, 9, 0, 1, 2, 3, 4, 5, 10] rfl (by decide) ?_
  refine zs_astore_n (lv' := [(1, .ref q), (0, .ref z)]) dX12_best_7 (Nat.le_of_ble_eq_true rfl) rfl rfl ?_
  refine zs_aload_n dX12_best_8 rfl rfl ?_
  refine zs_alen (v := (nI (pMn bt sz (D.1 0) 2 7))) 10 dX12_best_9 rfl (by decide) rfl ?_
  refine zs_if_ne (tgt := 15) dX12_best_10 (by decide) (fun c_1 => ?_) (fun c_1 => ?_)
  · have c_1 : ¬ ((pMn bt sz (D.1 0) 2 7) = 0) := by have hc := c_1; rw [show (0 : Int32) = nI 0 from rfl] at hc; rw [nI_eq' (by omega) (by omega)] at hc; exact hc
    have hM := pMn_k c_1
    refine zs_aload_n dX12_best_15 rfl rfl ?_
    refine zs_callS (M := mX12_sort) (As := [.ref q]) (st := []) (Kc := [(q, .inl (0, (pMn bt sz (D.1 0) 2 7), .inl (nF (nCl bt (fun _ => 0) (pMn bt sz (D.1 0) 2 7)))))]) (Kr := [(z, .inr (10, fPR a 0 fa nk oo be ho)), (a 0, .inl (0, 740, .inl (nF bt))), ((a 4), .inr (7, fSta y p s)), (y, .inr (9, fYard ay (ysN D.1 D.2.1))), (ay 1, .inl (0, 12, .inl (nF D.2.2.1))), (ay 2, .inl (0, 12, .inl (nF D.2.2.2.1))), (ay 3, .inl (0, 12, .inl (nF D.2.2.2.2.1))), (ay 4, .inl (0, 12, .inl (nF D.2.2.2.2.2.1))), (ay 5, .inl (0, 64, .inl (nF D.2.2.2.2.2.2.1))), (ay 6, .inl (1, 64, .inl (nF D.2.2.2.2.2.2.2)))]) [10] [0, 1, 2, 3, 4, 5, 6, 7, 8, 9] dX12_best_16 zl_RX12_248 kX12_sort rfl rfl rfl rfl rfl (by decide) (show dd - 1 + 1 ≤ dd by omega) (Nat.zero_le _) (Nat.zero_le _) (Nat.le_of_ble_eq_true rfl) (s_sort l (dd - 1) q (pMn bt sz (D.1 0) 2 7) (nCl bt (fun _ => 0) (pMn bt sz (D.1 0) 2 7)) (by omega) (fun i hi => by have := nCl_f hM.2.2.2.1 i hi; omega) (nCl_inj hM.2.2.2.2)) (fun r K1 hr => ?_)
    obtain ⟨rfl, g, hpm, hst, rfl⟩ := hr
    refine zs_K (K' := [(z, .inr (10, fPR a 0 fa nk oo be ho)), (a 0, .inl (0, 740, .inl (nF bt))), ((a 4), .inr (7, fSta y p s)), (y, .inr (9, fYard ay (ysN D.1 D.2.1))), (ay 1, .inl (0, 12, .inl (nF D.2.2.1))), (ay 2, .inl (0, 12, .inl (nF D.2.2.2.1))), (ay 3, .inl (0, 12, .inl (nF D.2.2.2.2.1))), (ay 4, .inl (0, 12, .inl (nF D.2.2.2.2.2.1))), (ay 5, .inl (0, 64, .inl (nF D.2.2.2.2.2.2.1))), (ay 6, .inl (1, 64, .inl (nF D.2.2.2.2.2.2.2))), (q, .inl (0, (pMn bt sz (D.1 0) 2 7), .inl (nF g)))]) [0, 1, 2, 3, 4, 5, 6, 7, 8, 9, 10] rfl (by decide) ?_
    refine zs_ldc (v := 2147483647) dX12_best_19 zk_RX12_254 ?_
    refine zs_istore_n (lv' := [(2, .int 2147483647), (1, .ref q), (0, .ref z)]) dX12_best_21 (Nat.le_of_ble_eq_true rfl) rfl ?_
    show zS _ _ _ _ [(2, .int (nI 2147483647)), (1, .ref q), (0, .ref z)] _ _
    refine zs_aload_n dX12_best_22 rfl rfl ?_
    refine zs_alen (v := (nI (pMn bt sz (D.1 0) 2 7))) 10 dX12_best_23 rfl (by decide) rfl ?_
    refine zs_newa_int (N := (pMn bt sz (D.1 0) 2 7)) dX12_best_24 (fun h => absurd h (by rw [show (0 : Int32) = nI 0 from rfl, nI_lt' (by omega) (by omega)]; omega)) (nI_c (by omega)) (by omega) (by first | omega | (simp only [List.length_cons, List.length_nil]; omega)) (by first | omega | (simp only [List.length_cons, List.length_nil]; omega)) (fun q3 => ?_)
    show zS _ _ _ _ _ _ [(z, .inr (10, fPR a 0 fa nk oo be ho)), (a 0, .inl (0, 740, .inl (nF bt))), ((a 4), .inr (7, fSta y p s)), (y, .inr (9, fYard ay (ysN D.1 D.2.1))), (ay 1, .inl (0, 12, .inl (nF D.2.2.1))), (ay 2, .inl (0, 12, .inl (nF D.2.2.2.1))), (ay 3, .inl (0, 12, .inl (nF D.2.2.2.2.1))), (ay 4, .inl (0, 12, .inl (nF D.2.2.2.2.2.1))), (ay 5, .inl (0, 64, .inl (nF D.2.2.2.2.2.2.1))), (ay 6, .inl (1, 64, .inl (nF D.2.2.2.2.2.2.2))), (q, .inl (0, (pMn bt sz (D.1 0) 2 7), .inl (nF g))), (q3, .inl (0, (pMn bt sz (D.1 0) 2 7), .inl (fun _ => 0)))]
    refine zs_astore_n (lv' := [(3, .ref q3), (2, .int (nI 2147483647)), (1, .ref q), (0, .ref z)]) dX12_best_26 (Nat.le_of_ble_eq_true rfl) rfl rfl ?_
    refine zs_aload_n dX12_best_27 rfl rfl ?_
    refine zs_alen (v := (nI (pMn bt sz (D.1 0) 2 7))) 10 dX12_best_28 rfl (by decide) rfl ?_
    refine zs_newa_int (N := (pMn bt sz (D.1 0) 2 7)) dX12_best_29 (fun h => absurd h (by rw [show (0 : Int32) = nI 0 from rfl, nI_lt' (by omega) (by omega)]; omega)) (nI_c (by omega)) (by omega) (by first | omega | (simp only [List.length_cons, List.length_nil]; omega)) (by first | omega | (simp only [List.length_cons, List.length_nil]; omega)) (fun q4 => ?_)
    show zS _ _ _ _ _ _ [(z, .inr (10, fPR a 0 fa nk oo be ho)), (a 0, .inl (0, 740, .inl (nF bt))), ((a 4), .inr (7, fSta y p s)), (y, .inr (9, fYard ay (ysN D.1 D.2.1))), (ay 1, .inl (0, 12, .inl (nF D.2.2.1))), (ay 2, .inl (0, 12, .inl (nF D.2.2.2.1))), (ay 3, .inl (0, 12, .inl (nF D.2.2.2.2.1))), (ay 4, .inl (0, 12, .inl (nF D.2.2.2.2.2.1))), (ay 5, .inl (0, 64, .inl (nF D.2.2.2.2.2.2.1))), (ay 6, .inl (1, 64, .inl (nF D.2.2.2.2.2.2.2))), (q, .inl (0, (pMn bt sz (D.1 0) 2 7), .inl (nF g))), (q3, .inl (0, (pMn bt sz (D.1 0) 2 7), .inl (fun _ => 0))), (q4, .inl (0, (pMn bt sz (D.1 0) 2 7), .inl (fun _ => 0)))]
    refine zs_astore (lv' := [(4, .ref q4), (3, .ref q3), (2, .int (nI 2147483647)), (1, .ref q), (0, .ref z)]) dX12_best_31 (Nat.le_of_ble_eq_true rfl) rfl rfl ?_
    refine zs_iconst (v := nI 0) dX12_best_33 (by decide) ?_
    refine zs_istore (lv' := [(5, .int (nI 0)), (4, .ref q4), (3, .ref q3), (2, .int (nI 2147483647)), (1, .ref q), (0, .ref z)]) dX12_best_34 (Nat.le_of_ble_eq_true rfl) rfl ?_
    refine zs_kc (Nat.zero_le _) (Nat.zero_le _) (?_ : zS _ 0 0 _ _ _ _)
    refine zs_lv [5, 4, 3, 2, 1, 0] rfl ?_
    exact lp_be2 z a sz fa nk oo be ho y p s ay D bt q q3 q4 (pMn bt sz (D.1 0) 2 7) g (by omega) hD ⟨hM.1, hM.2.1⟩ (fun i hi => by obtain ⟨j, hj, e⟩ := hpm.1 i hi; rw [e]; exact nCl_f hM.2.2.2.1 j hj) (bO D g (pMn bt sz (D.1 0) 2 7) (pMn bt sz (D.1 0) 2 7) 0 (2147483647, fun _ => 0)) (fun r K1 h => Or.inr ⟨g, q4, c_1, hpm, hst, h⟩) (pMn bt sz (D.1 0) 2 7) 0 (2147483647, fun _ => 0) (fun _ => 0) (Nat.zero_add _) (Nat.le_refl _) rfl
  · have c_1 : (pMn bt sz (D.1 0) 2 7) = 0 := by have hc := c_1; rw [show (0 : Int32) = nI 0 from rfl] at hc; rw [nI_eq' (by omega) (by omega)] at hc; exact hc
    refine zs_iconst (v := (-1)) dX12_best_13 (by decide) ?_
    refine zs_K (K' := [(z, .inr (10, fPR a 0 fa nk oo be ho)), (a 0, .inl (0, 740, .inl (nF bt))), ((a 4), .inr (7, fSta y p s)), (y, .inr (9, fYard ay (ysN D.1 D.2.1))), (ay 1, .inl (0, 12, .inl (nF D.2.2.1))), (ay 2, .inl (0, 12, .inl (nF D.2.2.2.1))), (ay 3, .inl (0, 12, .inl (nF D.2.2.2.2.1))), (ay 4, .inl (0, 12, .inl (nF D.2.2.2.2.2.1))), (ay 5, .inl (0, 64, .inl (nF D.2.2.2.2.2.2.1))), (ay 6, .inl (1, 64, .inl (nF D.2.2.2.2.2.2.2)))]) [0, 1, 2, 3, 4, 5, 6, 7, 8, 9] rfl (by decide) ?_
    exact zs_iret dX12_best_14 rfl (Or.inl ⟨c_1, rfl, rfl⟩)
