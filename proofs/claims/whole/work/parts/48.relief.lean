/-! ===== the class itself: relief, line, cost ===== -/
/-- what is left of each at a minute's beginning, n of them taking turns -/
def lSt (pw f : Nat → Nat) (n : Nat) : Nat → (Nat → Nat)
  | 0 => fun i => pw (f i)
  | m + 1 => fun i => if i = m % n then lSt pw f n m i - 3 else if lSt pw f n m i < pw (f i) then lSt pw f n m i + 1 else lSt pw f n m i
theorem lSt_le {pw f : Nat → Nat} {n : Nat} : ∀ m i, lSt pw f n m i ≤ pw (f i)
  | 0, _ => Nat.le_refl _
  | m + 1, i => by
    have ih := lSt_le (pw := pw) (f := f) (n := n) m i
    show (if i = m % n then lSt pw f n m i - 3 else if lSt pw f n m i < pw (f i) then lSt pw f n m i + 1 else lSt pw f n m i) ≤ pw (f i)
    split
    · omega
    · split <;> omega
abbrev lOkP (pw f : Nat → Nat) (n : Nat) : Prop := ∀ j, j < 60 → 3 ≤ lSt pw f n j (j % n)
def lOk (pw f : Nat → Nat) (n : Nat) : Bool := decide (lOkP pw f n)
theorem nCl_nu {new old : Nat → Nat} {k : Nat} (h : new k = old k) : nCl new old k = nCl new old (k + 1) := by
  funext j
  unfold nCl
  by_cases h1 : j < k
  · rw [if_pos h1, if_pos (by omega)]
  · rw [if_neg h1]
    by_cases h2 : j = k
    · subst h2
      rw [if_pos (by omega), h]
    · rw [if_neg (by omega)]
theorem nCl_nC (f g h : Nat → Nat) (n : Nat) : nCl f (nCl g h n) n = nCl f h n := by
  funext j
  unfold nCl
  split
  · rfl
  · rfl
theorem nCl_at {f g h : Nat → Nat} {n i : Nat} (hi : i < n) : nCl f (nCl g h n) i i = g i := by
  unfold nCl
  rw [if_neg (by omega), if_pos hi]
theorem dX12_lastsAnHour_0 : decode cX12_lastsAnHour 0 = .ok (.aload_n 0, 1) := by decide +kernel
theorem dX12_lastsAnHour_1 : decode cX12_lastsAnHour 1 = .ok (.getfield 23, 3) := by decide +kernel
theorem dX12_lastsAnHour_4 : decode cX12_lastsAnHour 4 = .ok (.getfield 96, 3) := by decide +kernel
theorem dX12_lastsAnHour_7 : decode cX12_lastsAnHour 7 = .ok (.getfield 172, 3) := by decide +kernel
theorem dX12_lastsAnHour_10 : decode cX12_lastsAnHour 10 = .ok (.astore 4, 2) := by decide +kernel
theorem dX12_lastsAnHour_12 : decode cX12_lastsAnHour 12 = .ok (.iconst 0, 1) := by decide +kernel
theorem dX12_lastsAnHour_13 : decode cX12_lastsAnHour 13 = .ok (.istore 5, 2) := by decide +kernel
theorem dX12_lastsAnHour_15 : decode cX12_lastsAnHour 15 = .ok (.iload 5, 2) := by decide +kernel
theorem dX12_lastsAnHour_17 : decode cX12_lastsAnHour 17 = .ok (.iload_n 2, 1) := by decide +kernel
theorem dX12_lastsAnHour_18 : decode cX12_lastsAnHour 18 = .ok (.if_icmp .ge 20, 3) := by decide +kernel
theorem dX12_lastsAnHour_21 : decode cX12_lastsAnHour 21 = .ok (.aload_n 3, 1) := by decide +kernel
theorem dX12_lastsAnHour_22 : decode cX12_lastsAnHour 22 = .ok (.iload 5, 2) := by decide +kernel
theorem dX12_lastsAnHour_24 : decode cX12_lastsAnHour 24 = .ok (.aload 4, 2) := by decide +kernel
theorem dX12_lastsAnHour_26 : decode cX12_lastsAnHour 26 = .ok (.aload_n 1, 1) := by decide +kernel
theorem dX12_lastsAnHour_27 : decode cX12_lastsAnHour 27 = .ok (.iload 5, 2) := by decide +kernel
theorem dX12_lastsAnHour_29 : decode cX12_lastsAnHour 29 = .ok (.iaload, 1) := by decide +kernel
theorem dX12_lastsAnHour_30 : decode cX12_lastsAnHour 30 = .ok (.iaload, 1) := by decide +kernel
theorem dX12_lastsAnHour_31 : decode cX12_lastsAnHour 31 = .ok (.iastore, 1) := by decide +kernel
theorem dX12_lastsAnHour_32 : decode cX12_lastsAnHour 32 = .ok (.iinc 5 1, 3) := by decide +kernel
theorem dX12_lastsAnHour_35 : decode cX12_lastsAnHour 35 = .ok (.goto (-20), 3) := by decide +kernel
theorem dX12_lastsAnHour_38 : decode cX12_lastsAnHour 38 = .ok (.iconst 0, 1) := by decide +kernel
theorem dX12_lastsAnHour_39 : decode cX12_lastsAnHour 39 = .ok (.istore 5, 2) := by decide +kernel
theorem dX12_lastsAnHour_41 : decode cX12_lastsAnHour 41 = .ok (.iload 5, 2) := by decide +kernel
theorem dX12_lastsAnHour_43 : decode cX12_lastsAnHour 43 = .ok (.bipush 60, 2) := by decide +kernel
theorem dX12_lastsAnHour_45 : decode cX12_lastsAnHour 45 = .ok (.if_icmp .ge 88, 3) := by decide +kernel
theorem dX12_lastsAnHour_48 : decode cX12_lastsAnHour 48 = .ok (.iload_n 2, 1) := by decide +kernel
theorem dX12_lastsAnHour_49 : decode cX12_lastsAnHour 49 = .ok (.ifCond .le 10, 3) := by decide +kernel
theorem dX12_lastsAnHour_52 : decode cX12_lastsAnHour 52 = .ok (.iload 5, 2) := by decide +kernel
theorem dX12_lastsAnHour_54 : decode cX12_lastsAnHour 54 = .ok (.iload_n 2, 1) := by decide +kernel
theorem dX12_lastsAnHour_55 : decode cX12_lastsAnHour 55 = .ok (.irem, 1) := by decide +kernel
theorem dX12_lastsAnHour_56 : decode cX12_lastsAnHour 56 = .ok (.goto 4, 3) := by decide +kernel
theorem dX12_lastsAnHour_59 : decode cX12_lastsAnHour 59 = .ok (.iconst 0, 1) := by decide +kernel
theorem dX12_lastsAnHour_60 : decode cX12_lastsAnHour 60 = .ok (.istore 6, 2) := by decide +kernel
theorem dX12_lastsAnHour_62 : decode cX12_lastsAnHour 62 = .ok (.aload_n 3, 1) := by decide +kernel
theorem dX12_lastsAnHour_63 : decode cX12_lastsAnHour 63 = .ok (.iload 6, 2) := by decide +kernel
theorem dX12_lastsAnHour_65 : decode cX12_lastsAnHour 65 = .ok (.iaload, 1) := by decide +kernel
theorem dX12_lastsAnHour_66 : decode cX12_lastsAnHour 66 = .ok (.iconst 3, 1) := by decide +kernel
theorem dX12_lastsAnHour_67 : decode cX12_lastsAnHour 67 = .ok (.if_icmp .ge 5, 3) := by decide +kernel
theorem dX12_lastsAnHour_70 : decode cX12_lastsAnHour 70 = .ok (.iconst 0, 1) := by decide +kernel
theorem dX12_lastsAnHour_71 : decode cX12_lastsAnHour 71 = .ok (.ireturn, 1) := by decide +kernel
theorem dX12_lastsAnHour_72 : decode cX12_lastsAnHour 72 = .ok (.iconst 0, 1) := by decide +kernel
theorem dX12_lastsAnHour_73 : decode cX12_lastsAnHour 73 = .ok (.istore 7, 2) := by decide +kernel
theorem dX12_lastsAnHour_75 : decode cX12_lastsAnHour 75 = .ok (.iload 7, 2) := by decide +kernel
theorem dX12_lastsAnHour_77 : decode cX12_lastsAnHour 77 = .ok (.iload_n 2, 1) := by decide +kernel
theorem dX12_lastsAnHour_78 : decode cX12_lastsAnHour 78 = .ok (.if_icmp .ge 49, 3) := by decide +kernel
theorem dX12_lastsAnHour_81 : decode cX12_lastsAnHour 81 = .ok (.iload 7, 2) := by decide +kernel
theorem dX12_lastsAnHour_83 : decode cX12_lastsAnHour 83 = .ok (.iload 6, 2) := by decide +kernel
theorem dX12_lastsAnHour_85 : decode cX12_lastsAnHour 85 = .ok (.if_icmp .ne 14, 3) := by decide +kernel
theorem dX12_lastsAnHour_88 : decode cX12_lastsAnHour 88 = .ok (.aload_n 3, 1) := by decide +kernel
theorem dX12_lastsAnHour_89 : decode cX12_lastsAnHour 89 = .ok (.iload 7, 2) := by decide +kernel
theorem dX12_lastsAnHour_91 : decode cX12_lastsAnHour 91 = .ok (.dup2, 1) := by decide +kernel
theorem dX12_lastsAnHour_92 : decode cX12_lastsAnHour 92 = .ok (.iaload, 1) := by decide +kernel
theorem dX12_lastsAnHour_93 : decode cX12_lastsAnHour 93 = .ok (.iconst 3, 1) := by decide +kernel
theorem dX12_lastsAnHour_94 : decode cX12_lastsAnHour 94 = .ok (.isub, 1) := by decide +kernel
theorem dX12_lastsAnHour_95 : decode cX12_lastsAnHour 95 = .ok (.iastore, 1) := by decide +kernel
theorem dX12_lastsAnHour_96 : decode cX12_lastsAnHour 96 = .ok (.goto 25, 3) := by decide +kernel
theorem dX12_lastsAnHour_99 : decode cX12_lastsAnHour 99 = .ok (.aload_n 3, 1) := by decide +kernel
theorem dX12_lastsAnHour_100 : decode cX12_lastsAnHour 100 = .ok (.iload 7, 2) := by decide +kernel
theorem dX12_lastsAnHour_102 : decode cX12_lastsAnHour 102 = .ok (.iaload, 1) := by decide +kernel
theorem dX12_lastsAnHour_103 : decode cX12_lastsAnHour 103 = .ok (.aload 4, 2) := by decide +kernel
theorem dX12_lastsAnHour_105 : decode cX12_lastsAnHour 105 = .ok (.aload_n 1, 1) := by decide +kernel
theorem dX12_lastsAnHour_106 : decode cX12_lastsAnHour 106 = .ok (.iload 7, 2) := by decide +kernel
theorem dX12_lastsAnHour_108 : decode cX12_lastsAnHour 108 = .ok (.iaload, 1) := by decide +kernel
theorem dX12_lastsAnHour_109 : decode cX12_lastsAnHour 109 = .ok (.iaload, 1) := by decide +kernel
theorem dX12_lastsAnHour_110 : decode cX12_lastsAnHour 110 = .ok (.if_icmp .ge 11, 3) := by decide +kernel
theorem dX12_lastsAnHour_113 : decode cX12_lastsAnHour 113 = .ok (.aload_n 3, 1) := by decide +kernel
theorem dX12_lastsAnHour_114 : decode cX12_lastsAnHour 114 = .ok (.iload 7, 2) := by decide +kernel
theorem dX12_lastsAnHour_116 : decode cX12_lastsAnHour 116 = .ok (.dup2, 1) := by decide +kernel
theorem dX12_lastsAnHour_117 : decode cX12_lastsAnHour 117 = .ok (.iaload, 1) := by decide +kernel
theorem dX12_lastsAnHour_118 : decode cX12_lastsAnHour 118 = .ok (.iconst 1, 1) := by decide +kernel
theorem dX12_lastsAnHour_119 : decode cX12_lastsAnHour 119 = .ok (.iadd, 1) := by decide +kernel
theorem dX12_lastsAnHour_120 : decode cX12_lastsAnHour 120 = .ok (.iastore, 1) := by decide +kernel
theorem dX12_lastsAnHour_121 : decode cX12_lastsAnHour 121 = .ok (.iinc 7 1, 3) := by decide +kernel
theorem dX12_lastsAnHour_124 : decode cX12_lastsAnHour 124 = .ok (.goto (-49), 3) := by decide +kernel
theorem dX12_lastsAnHour_127 : decode cX12_lastsAnHour 127 = .ok (.iinc 5 1, 3) := by decide +kernel
theorem dX12_lastsAnHour_130 : decode cX12_lastsAnHour 130 = .ok (.goto (-89), 3) := by decide +kernel
theorem dX12_lastsAnHour_133 : decode cX12_lastsAnHour 133 = .ok (.iconst 1, 1) := by decide +kernel
theorem dX12_lastsAnHour_134 : decode cX12_lastsAnHour 134 = .ok (.ireturn, 1) := by decide +kernel
set_option maxRecDepth 100000 in
theorem lp_la0 {l : Launch} {dd : Nat} {Po : zPo} {K0 : zK} {h0 : List va_E} {Xo : zK → Prop} {Gc : zG → Prop} (z : Nat) (a : Nat → Nat) (sz fa nk oo be ho : Nat) (y p s q q2 N n : Nat) (ay : Nat → Nat) (D : zYd) (f g : Nat → Nat) (hD : yI D) (hn : 1 ≤ n ∧ n ≤ N) (hN : N ≤ 12) (hf : ∀ i, i < N → f i < D.1 0)
    (hk : zS (l, mX12_lastsAnHour, dd, Po, K0, h0, Xo, Gc) 0 0 38 [(0, .ref z), (1, .ref q), (2, .int (nI n)), (3, .ref q2), (4, .ref (ay 4))] [] [(z, .inr (10, fPR a sz fa nk oo be ho)), ((a 4), .inr (7, fSta y p s)), (y, .inr (9, fYard ay (ysN D.1 D.2.1))), (ay 4, .inl (0, 12, .inl (nF D.2.2.2.2.2.1))), (q, .inl (0, N, .inl (nF f))), (q2, .inl (0, N, .inl (nF (nCl (fun i => D.2.2.2.2.2.1 (f i)) g n))))]) :
    ∀ (m i : Nat) , i + m = n → zS (l, mX12_lastsAnHour, dd, Po, K0, h0, Xo, Gc) 0 0 15 [(0, .ref z), (1, .ref q), (2, .int (nI n)), (3, .ref q2), (4, .ref (ay 4)), (5, .int (nI i))] [] [(z, .inr (10, fPR a sz fa nk oo be ho)), ((a 4), .inr (7, fSta y p s)), (y, .inr (9, fYard ay (ysN D.1 D.2.1))), (ay 4, .inl (0, 12, .inl (nF D.2.2.2.2.2.1))), (q, .inl (0, N, .inl (nF f))), (q2, .inl (0, N, .inl (nF (nCl (fun i => D.2.2.2.2.2.1 (f i)) g i))))] := by
  intro m
  induction m with
  | zero =>
    intro i hi
    refine zs_iload dX12_lastsAnHour_15 rfl ?_
    refine zs_iload_n dX12_lastsAnHour_17 rfl ?_
    refine zs_icmp_ge (tgt := 38) dX12_lastsAnHour_18 (by decide) (fun c_1 => ?_) (fun c_1 => (c_1 (by rw [show i = n by omega]; exact Int32.le_refl _) : False).elim)
    rw [show i = n by omega]
    refine zs_lv [0, 1, 2, 3, 4] rfl ?_
    exact hk
  | succ m ih =>
    intro i hi
    obtain ⟨y1, y2, y3, y4, y5, y6, y7, y8, y9, y10, y11, y12, y13, y14, y15, y16, y17, y18, y19, y20⟩ := id hD
    have hfi := hf i (by omega)
    refine zs_iload dX12_lastsAnHour_15 rfl ?_
    refine zs_iload_n dX12_lastsAnHour_17 rfl ?_
    refine zs_icmp_ge (tgt := 38) dX12_lastsAnHour_18 (by decide) (fun c_1 => (nI_ge (show i < n by omega) (by omega) c_1 : False).elim) (fun c_1 => ?_)
    refine zs_aload_n dX12_lastsAnHour_21 rfl rfl ?_
    refine zs_iload dX12_lastsAnHour_22 rfl ?_
    refine zs_aload dX12_lastsAnHour_24 rfl rfl ?_
    refine zs_aload_n dX12_lastsAnHour_26 rfl rfl ?_
    refine zs_iload dX12_lastsAnHour_27 rfl ?_
    refine zs_iald 4 dX12_lastsAnHour_29 rfl (vp_in_nI (by omega) (by omega)) ?_
    refine zs_as (y := nI (f i)) (by rw [nI_c (n := i) (by omega)]; rfl) ?_
    refine zs_iald 3 dX12_lastsAnHour_30 rfl (vp_in_nI (by omega) (by omega)) ?_
    refine zs_as (y := nI (D.2.2.2.2.2.1 (f i))) (by rw [nI_c (n := f i) (by omega)]; rfl) ?_
    refine zs_iast 5 dX12_lastsAnHour_31 rfl (vp_in_nI (by omega) (by omega)) ?_
    rw [nI_c (n := i) (by omega), nF_u]
    rw [nCl_u (new := fun i => D.2.2.2.2.2.1 (f i)) (old := g) (k := i) rfl]
    show zS _ _ _ _ _ _ [(z, .inr (10, fPR a sz fa nk oo be ho)), ((a 4), .inr (7, fSta y p s)), (y, .inr (9, fYard ay (ysN D.1 D.2.1))), (ay 4, .inl (0, 12, .inl (nF D.2.2.2.2.2.1))), (q, .inl (0, N, .inl (nF f))), (q2, .inl (0, N, .inl (nF (nCl (fun i => D.2.2.2.2.2.1 (f i)) g (i + 1)))))]
    refine zs_iinc (v := (nI (i + 1))) (lv' := [(5, .int (nI (i + 1))), (0, .ref z), (1, .ref q), (2, .int (nI n)), (3, .ref q2), (4, .ref (ay 4))]) dX12_lastsAnHour_32 rfl (nI_add _ 1) (Nat.le_of_ble_eq_true rfl) rfl ?_
    refine zs_goto (tgt := 15) dX12_lastsAnHour_35 (by decide) ?_
    refine zs_lv [1, 2, 3, 4, 5, 0] rfl ?_
    exact ih (i + 1) (by omega)
set_option maxRecDepth 100000 in
theorem lp_la1 {l : Launch} {dd : Nat} {Po : zPo} {K0 : zK} {h0 : List va_E} {Xo : zK → Prop} {Gc : zG → Prop} (z : Nat) (a : Nat → Nat) (sz fa nk oo be ho : Nat) (y p s q q2 N n : Nat) (ay : Nat → Nat) (D : zYd) (f g : Nat → Nat) (u : Nat) (hD : yI D) (hn : 1 ≤ n ∧ n ≤ N) (hN : N ≤ 12) (hf : ∀ i, i < N → f i < D.1 0) (hm : u < 60) (h3 : 3 ≤ lSt D.2.2.2.2.2.1 f n u (u % n))
    (hk : zS (l, mX12_lastsAnHour, dd, Po, K0, h0, Xo, Gc) 0 0 127 [(0, .ref z), (1, .ref q), (2, .int (nI n)), (3, .ref q2), (4, .ref (ay 4)), (5, .int (nI u))] [] [(z, .inr (10, fPR a sz fa nk oo be ho)), ((a 4), .inr (7, fSta y p s)), (y, .inr (9, fYard ay (ysN D.1 D.2.1))), (ay 4, .inl (0, 12, .inl (nF D.2.2.2.2.2.1))), (q, .inl (0, N, .inl (nF f))), (q2, .inl (0, N, .inl (nF (nCl (lSt D.2.2.2.2.2.1 f n (u + 1)) g n))))]) :
    ∀ (m i : Nat) , i + m = n → zS (l, mX12_lastsAnHour, dd, Po, K0, h0, Xo, Gc) 0 0 75 [(0, .ref z), (1, .ref q), (2, .int (nI n)), (3, .ref q2), (4, .ref (ay 4)), (5, .int (nI u)), (6, .int (nI (u % n))), (7, .int (nI i))] [] [(z, .inr (10, fPR a sz fa nk oo be ho)), ((a 4), .inr (7, fSta y p s)), (y, .inr (9, fYard ay (ysN D.1 D.2.1))), (ay 4, .inl (0, 12, .inl (nF D.2.2.2.2.2.1))), (q, .inl (0, N, .inl (nF f))), (q2, .inl (0, N, .inl (nF (nCl (lSt D.2.2.2.2.2.1 f n (u + 1)) (nCl (lSt D.2.2.2.2.2.1 f n u) g n) i))))] := by
  intro m
  induction m with
  | zero =>
    intro i hi
    refine zs_iload dX12_lastsAnHour_75 rfl ?_
    refine zs_iload_n dX12_lastsAnHour_77 rfl ?_
    refine zs_icmp_ge (tgt := 127) dX12_lastsAnHour_78 (by decide) (fun c_1 => ?_) (fun c_1 => (c_1 (by rw [show i = n by omega]; exact Int32.le_refl _) : False).elim)
    rw [show i = n by omega, nCl_nC]
    refine zs_lv [0, 1, 2, 3, 4, 5] rfl ?_
    exact hk
  | succ m ih =>
    intro i hi
    obtain ⟨y1, y2, y3, y4, y5, y6, y7, y8, y9, y10, y11, y12, y13, y14, y15, y16, y17, y18, y19, y20⟩ := id hD
    have hfi := hf i (by omega)
    have hl := lSt_le (pw := D.2.2.2.2.2.1) (f := f) (n := n) u i
    have hp := (y8 (f i)).2.2
    have hmod := Nat.mod_lt u (show 0 < n by omega)
    refine zs_iload dX12_lastsAnHour_75 rfl ?_
    refine zs_iload_n dX12_lastsAnHour_77 rfl ?_
    refine zs_icmp_ge (tgt := 127) dX12_lastsAnHour_78 (by decide) (fun c_1 => (nI_ge (show i < n by omega) (by omega) c_1 : False).elim) (fun c_1 => ?_)
    refine zs_iload dX12_lastsAnHour_81 rfl ?_
    refine zs_iload dX12_lastsAnHour_83 rfl ?_
    refine zs_icmp_ne (tgt := 99) dX12_lastsAnHour_85 (by decide) (fun c_2 => ?_) (fun c_2 => ?_)
    · have c_2 : ¬ (i = (u % n)) := by have hc := c_2; rw [nI_eq' (by omega) (by omega)] at hc; exact hc
      refine zs_aload_n dX12_lastsAnHour_99 rfl rfl ?_
      refine zs_iload dX12_lastsAnHour_100 rfl ?_
      refine zs_iald 5 dX12_lastsAnHour_102 rfl (vp_in_nI (by omega) (by omega)) ?_
      refine zs_as (y := nI ((lSt D.2.2.2.2.2.1 f n u) i)) (by rw [nI_c (n := i) (by omega)]; exact congrArg nI (nCl_at (show i < n by omega))) ?_
      refine zs_aload dX12_lastsAnHour_103 rfl rfl ?_
      refine zs_aload_n dX12_lastsAnHour_105 rfl rfl ?_
      refine zs_iload dX12_lastsAnHour_106 rfl ?_
      refine zs_iald 4 dX12_lastsAnHour_108 rfl (vp_in_nI (by omega) (by omega)) ?_
      refine zs_as (y := nI (f i)) (by rw [nI_c (n := i) (by omega)]; rfl) ?_
      refine zs_iald 3 dX12_lastsAnHour_109 rfl (vp_in_nI (by omega) (by omega)) ?_
      refine zs_as (y := nI (D.2.2.2.2.2.1 (f i))) (by rw [nI_c (n := f i) (by omega)]; rfl) ?_
      refine zs_icmp_ge (tgt := 121) dX12_lastsAnHour_110 (by decide) (fun c_3 => ?_) (fun c_3 => ?_)
      · have c_3 : (D.2.2.2.2.2.1 (f i)) ≤ ((lSt D.2.2.2.2.2.1 f n u) i) := by have hc := c_3; rw [nI_le' (by omega) (by omega)] at hc; exact hc
        refine zs_iinc (v := (nI (i + 1))) (lv' := [(7, .int (nI (i + 1))), (0, .ref z), (1, .ref q), (2, .int (nI n)), (3, .ref q2), (4, .ref (ay 4)), (5, .int (nI u)), (6, .int (nI (u % n)))]) dX12_lastsAnHour_121 rfl (nI_add _ 1) (Nat.le_of_ble_eq_true rfl) rfl ?_
        refine zs_goto (tgt := 75) dX12_lastsAnHour_124 (by decide) ?_
        refine zs_lv [1, 2, 3, 4, 5, 6, 7, 0] rfl ?_
        rw [nCl_nu (new := (lSt D.2.2.2.2.2.1 f n (u + 1))) (old := (nCl (lSt D.2.2.2.2.2.1 f n u) g n)) (k := i) (((if_neg c_2).trans (if_neg (show ¬ (lSt D.2.2.2.2.2.1 f n u) i < D.2.2.2.2.2.1 (f i) by omega))).trans (show _ = nCl (lSt D.2.2.2.2.2.1 f n u) g n i from (if_pos (show i < n by omega)).symm))]
        exact ih (i + 1) (by omega)
      · have c_3 : ¬ ((D.2.2.2.2.2.1 (f i)) ≤ ((lSt D.2.2.2.2.2.1 f n u) i)) := by have hc := c_3; rw [nI_le' (by omega) (by omega)] at hc; exact hc
        refine zs_aload_n dX12_lastsAnHour_113 rfl rfl ?_
        refine zs_iload dX12_lastsAnHour_114 rfl ?_
        refine zs_dup2 dX12_lastsAnHour_116 rfl rfl ?_
        refine zs_iald 5 dX12_lastsAnHour_117 rfl (vp_in_nI (by omega) (by omega)) ?_
        refine zs_as (y := nI ((lSt D.2.2.2.2.2.1 f n u) i)) (by rw [nI_c (n := i) (by omega)]; exact congrArg nI (nCl_at (show i < n by omega))) ?_
        refine zs_iconst (v := nI 1) dX12_lastsAnHour_118 (by decide) ?_
        refine zs_iadd dX12_lastsAnHour_119 ?_
        refine zs_as (y := nI (((lSt D.2.2.2.2.2.1 f n u) i) + 1)) (nI_add _ _) ?_
        refine zs_iast 5 dX12_lastsAnHour_120 rfl (vp_in_nI (by omega) (by omega)) ?_
        rw [nI_c (n := i) (by omega), nF_u]
        rw [nCl_u (new := (lSt D.2.2.2.2.2.1 f n (u + 1))) (old := (nCl (lSt D.2.2.2.2.2.1 f n u) g n)) (k := i) (show (lSt D.2.2.2.2.2.1 f n (u + 1)) i = (lSt D.2.2.2.2.2.1 f n u) i + 1 from (if_neg c_2).trans (if_pos (show (lSt D.2.2.2.2.2.1 f n u) i < D.2.2.2.2.2.1 (f i) by omega)))]
        show zS _ _ _ _ _ _ [(z, .inr (10, fPR a sz fa nk oo be ho)), ((a 4), .inr (7, fSta y p s)), (y, .inr (9, fYard ay (ysN D.1 D.2.1))), (ay 4, .inl (0, 12, .inl (nF D.2.2.2.2.2.1))), (q, .inl (0, N, .inl (nF f))), (q2, .inl (0, N, .inl (nF (nCl (lSt D.2.2.2.2.2.1 f n (u + 1)) (nCl (lSt D.2.2.2.2.2.1 f n u) g n) (i + 1)))))]
        refine zs_iinc (v := (nI (i + 1))) (lv' := [(7, .int (nI (i + 1))), (0, .ref z), (1, .ref q), (2, .int (nI n)), (3, .ref q2), (4, .ref (ay 4)), (5, .int (nI u)), (6, .int (nI (u % n)))]) dX12_lastsAnHour_121 rfl (nI_add _ 1) (Nat.le_of_ble_eq_true rfl) rfl ?_
        refine zs_goto (tgt := 75) dX12_lastsAnHour_124 (by decide) ?_
        refine zs_lv [1, 2, 3, 4, 5, 6, 7, 0] rfl ?_
        exact ih (i + 1) (by omega)
    · have c_2 : i = (u % n) := by have hc := c_2; rw [nI_eq' (by omega) (by omega)] at hc; exact hc
      refine zs_aload_n dX12_lastsAnHour_88 rfl rfl ?_
      refine zs_iload dX12_lastsAnHour_89 rfl ?_
      refine zs_dup2 dX12_lastsAnHour_91 rfl rfl ?_
      refine zs_iald 5 dX12_lastsAnHour_92 rfl (vp_in_nI (by omega) (by omega)) ?_
      refine zs_as (y := nI ((lSt D.2.2.2.2.2.1 f n u) i)) (by rw [nI_c (n := i) (by omega)]; exact congrArg nI (nCl_at (show i < n by omega))) ?_
      refine zs_iconst (v := nI 3) dX12_lastsAnHour_93 (by decide) ?_
      refine zs_isub dX12_lastsAnHour_94 ?_
      refine zs_as (y := nI (((lSt D.2.2.2.2.2.1 f n u) i) - 3)) (nI_sub (show 3 ≤ (lSt D.2.2.2.2.2.1 f n u) i from c_2 ▸ h3)) ?_
      refine zs_iast 5 dX12_lastsAnHour_95 rfl (vp_in_nI (by omega) (by omega)) ?_
      rw [nI_c (n := i) (by omega), nF_u]
      rw [nCl_u (new := (lSt D.2.2.2.2.2.1 f n (u + 1))) (old := (nCl (lSt D.2.2.2.2.2.1 f n u) g n)) (k := i) (show (lSt D.2.2.2.2.2.1 f n (u + 1)) i = (lSt D.2.2.2.2.2.1 f n u) i - 3 from if_pos c_2)]
      show zS _ _ _ _ _ _ [(z, .inr (10, fPR a sz fa nk oo be ho)), ((a 4), .inr (7, fSta y p s)), (y, .inr (9, fYard ay (ysN D.1 D.2.1))), (ay 4, .inl (0, 12, .inl (nF D.2.2.2.2.2.1))), (q, .inl (0, N, .inl (nF f))), (q2, .inl (0, N, .inl (nF (nCl (lSt D.2.2.2.2.2.1 f n (u + 1)) (nCl (lSt D.2.2.2.2.2.1 f n u) g n) (i + 1)))))]
      refine zs_goto (tgt := 121) dX12_lastsAnHour_96 (by decide) ?_
      refine zs_iinc (v := (nI (i + 1))) (lv' := [(7, .int (nI (i + 1))), (0, .ref z), (1, .ref q), (2, .int (nI n)), (3, .ref q2), (4, .ref (ay 4)), (5, .int (nI u)), (6, .int (nI (u % n)))]) dX12_lastsAnHour_121 rfl (nI_add _ 1) (Nat.le_of_ble_eq_true rfl) rfl ?_
      refine zs_goto (tgt := 75) dX12_lastsAnHour_124 (by decide) ?_
      refine zs_lv [1, 2, 3, 4, 5, 6, 7, 0] rfl ?_
      exact ih (i + 1) (by omega)
set_option maxRecDepth 100000 in
theorem lp_la2 {l : Launch} {dd : Nat} {Po : zPo} {K0 : zK} {h0 : List va_E} {Xo : zK → Prop} {Gc : zG → Prop} (z : Nat) (a : Nat → Nat) (sz fa nk oo be ho : Nat) (y p s q q2 N n : Nat) (ay : Nat → Nat) (D : zYd) (f g : Nat → Nat) (hD : yI D) (hn : 1 ≤ n ∧ n ≤ N) (hN : N ≤ 12) (hf : ∀ i, i < N → f i < D.1 0) (hP : ∀ r K', (lOk D.2.2.2.2.2.1 f n = true ∧ r = some (.int 1) ∧ ∃ g2, K' = [(z, .inr (10, fPR a sz fa nk oo be ho)), ((a 4), .inr (7, fSta y p s)), (y, .inr (9, fYard ay (ysN D.1 D.2.1))), (ay 4, .inl (0, 12, .inl (nF D.2.2.2.2.2.1))), (q, .inl (0, N, .inl (nF f))), (q2, .inl (0, N, .inl (nF g2)))]) ∨ (lOk D.2.2.2.2.2.1 f n = false ∧ r = some (.int 0) ∧ ∃ g2, K' = [(z, .inr (10, fPR a sz fa nk oo be ho)), ((a 4), .inr (7, fSta y p s)), (y, .inr (9, fYard ay (ysN D.1 D.2.1))), (ay 4, .inl (0, 12, .inl (nF D.2.2.2.2.2.1))), (q, .inl (0, N, .inl (nF f))), (q2, .inl (0, N, .inl (nF g2)))]) → Po r K') : ∀ (w u : Nat), u + w = 60 → (∀ j, j < u → 3 ≤ (lSt D.2.2.2.2.2.1 f n j) (j % n)) → zS (l, mX12_lastsAnHour, dd, Po, K0, h0, Xo, Gc) 0 0 41 [(0, .ref z), (1, .ref q), (2, .int (nI n)), (3, .ref q2), (4, .ref (ay 4)), (5, .int (nI u))] [] [(z, .inr (10, fPR a sz fa nk oo be ho)), ((a 4), .inr (7, fSta y p s)), (y, .inr (9, fYard ay (ysN D.1 D.2.1))), (ay 4, .inl (0, 12, .inl (nF D.2.2.2.2.2.1))), (q, .inl (0, N, .inl (nF f))), (q2, .inl (0, N, .inl (nF (nCl (lSt D.2.2.2.2.2.1 f n u) g n))))] := by
  intro w
  induction w with
  | zero =>
    intro u hm hA
    refine zs_iload dX12_lastsAnHour_41 rfl ?_
    refine zs_bipush (v := nI 60) dX12_lastsAnHour_43 (by decide) ?_
    refine zs_icmp_ge (tgt := 133) dX12_lastsAnHour_45 (by decide) (fun c_1 => ?_) (fun c_1 => (c_1 (by rw [show u = 60 by omega]; exact Int32.le_refl _) : False).elim)
    refine zs_iconst (v := nI 1) dX12_lastsAnHour_133 (by decide) ?_
    have hm60 : u = 60 := by omega
    subst hm60
    exact zs_zret dX12_lastsAnHour_134 rfl (Or.inr rfl) (hP _ _ (Or.inl ⟨decide_eq_true hA, rfl, (nCl (lSt D.2.2.2.2.2.1 f n 60) g n), rfl⟩))
  | succ w ih =>
    intro u hm hA
    obtain ⟨y1, y2, y3, y4, y5, y6, y7, y8, y9, y10, y11, y12, y13, y14, y15, y16, y17, y18, y19, y20⟩ := id hD
    have hl := lSt_le (pw := D.2.2.2.2.2.1) (f := f) (n := n) u (u % n)
    have hp := (y8 (f (u % n))).2.2
    have hmod := Nat.mod_lt u (show 0 < n by omega)
    refine zs_iload dX12_lastsAnHour_41 rfl ?_
    refine zs_bipush (v := nI 60) dX12_lastsAnHour_43 (by decide) ?_
    refine zs_icmp_ge (tgt := 133) dX12_lastsAnHour_45 (by decide) (fun c_1 => (nI_ge (show u < 60 by omega) (by omega) c_1 : False).elim) (fun c_1 => ?_)
    refine zs_iload_n dX12_lastsAnHour_48 rfl ?_
    refine zs_if_le (tgt := 59) dX12_lastsAnHour_49 (by decide) (fun c_2 => (absurd c_2 (by rw [show (0 : Int32) = nI 0 from rfl, nI_le' (by omega) (by omega)]; omega) : False).elim) (fun c_2 => ?_)
    refine zs_iload dX12_lastsAnHour_52 rfl ?_
    refine zs_iload_n dX12_lastsAnHour_54 rfl ?_
    refine zs_irem dX12_lastsAnHour_55 (fun hz => by rw [show (0 : Int32) = nI 0 from rfl, nI_eq' (by omega) (by omega)] at hz; omega) ?_
    refine zs_as (y := nI (u % n)) (nI_rem (by omega) (by omega) (by omega)) ?_
    refine zs_goto (tgt := 60) dX12_lastsAnHour_56 (by decide) ?_
    refine zs_istore (lv' := [(6, .int (nI (u % n))), (0, .ref z), (1, .ref q), (2, .int (nI n)), (3, .ref q2), (4, .ref (ay 4)), (5, .int (nI u))]) dX12_lastsAnHour_60 (Nat.le_of_ble_eq_true rfl) rfl ?_
    refine zs_aload_n dX12_lastsAnHour_62 rfl rfl ?_
    refine zs_iload dX12_lastsAnHour_63 rfl ?_
    refine zs_iald 5 dX12_lastsAnHour_65 rfl (vp_in_nI (by omega) (by omega)) ?_
    refine zs_as (y := nI ((lSt D.2.2.2.2.2.1 f n u) (u % n))) (by rw [nI_c (n := u % n) (by omega)]; exact congrArg nI (if_pos (show u % n < n by omega))) ?_
    refine zs_iconst (v := nI 3) dX12_lastsAnHour_66 (by decide) ?_
    refine zs_icmp_ge (tgt := 72) dX12_lastsAnHour_67 (by decide) (fun c_3 => ?_) (fun c_3 => ?_)
    · have c_3 : 3 ≤ ((lSt D.2.2.2.2.2.1 f n u) (u % n)) := by have hc := c_3; rw [nI_le' (by omega) (by omega)] at hc; exact hc
      refine zs_iconst (v := nI 0) dX12_lastsAnHour_72 (by decide) ?_
      refine zs_istore (lv' := [(7, .int (nI 0)), (6, .int (nI (u % n))), (0, .ref z), (1, .ref q), (2, .int (nI n)), (3, .ref q2), (4, .ref (ay 4)), (5, .int (nI u))]) dX12_lastsAnHour_73 (Nat.le_of_ble_eq_true rfl) rfl ?_
      refine zs_lv [2, 3, 4, 5, 6, 7, 1, 0] rfl ?_
      refine zs_eq (K' := [(z, .inr (10, fPR a sz fa nk oo be ho)), ((a 4), .inr (7, fSta y p s)), (y, .inr (9, fYard ay (ysN D.1 D.2.1))), (ay 4, .inl (0, 12, .inl (nF D.2.2.2.2.2.1))), (q, .inl (0, N, .inl (nF f))), (q2, .inl (0, N, .inl (nF (nCl (lSt D.2.2.2.2.2.1 f n (u + 1)) (nCl (lSt D.2.2.2.2.2.1 f n u) g n) 0))))]) (by rw [nCl_0]) ?_
      refine lp_la1 z a sz fa nk oo be ho y p s q q2 N n ay D f g u hD hn hN hf (by omega) (by omega) ?_ n 0 (Nat.zero_add _)
      refine zs_iinc (v := (nI (u + 1))) (lv' := [(5, .int (nI (u + 1))), (0, .ref z), (1, .ref q), (2, .int (nI n)), (3, .ref q2), (4, .ref (ay 4))]) dX12_lastsAnHour_127 rfl (nI_add _ 1) (Nat.le_of_ble_eq_true rfl) rfl ?_
      refine zs_goto (tgt := 41) dX12_lastsAnHour_130 (by decide) ?_
      refine zs_lv [1, 2, 3, 4, 5, 0] rfl ?_
      exact ih (u + 1) (by omega) (fun j hj => (Nat.lt_or_eq_of_le (Nat.le_of_lt_succ hj)).elim (hA j) (fun e => e ▸ (by omega)))
    · have c_3 : ¬ (3 ≤ ((lSt D.2.2.2.2.2.1 f n u) (u % n))) := by have hc := c_3; rw [nI_le' (by omega) (by omega)] at hc; exact hc
      refine zs_iconst (v := nI 0) dX12_lastsAnHour_70 (by decide) ?_
      exact zs_zret dX12_lastsAnHour_71 rfl (Or.inl rfl) (hP _ _ (Or.inr ⟨decide_eq_false (fun h => by have := h u (by omega); omega), rfl, (nCl (lSt D.2.2.2.2.2.1 f n u) g n), rfl⟩))
set_option maxRecDepth 100000 in
theorem s_lasts (l : Launch) (dd : Nat) (z : Nat) (a : Nat → Nat) (sz fa nk oo be ho : Nat) (y p s q q2 N n : Nat) (ay : Nat → Nat) (D : zYd) (f g : Nat → Nat) (hD : yI D) (hn : 1 ≤ n ∧ n ≤ N) (hN : N ≤ 12) (hf : ∀ i, i < N → f i < D.1 0) : zSp l mX12_lastsAnHour dd 0 0 [.ref z, .ref q, .int (nI n), .ref q2] [(z, .inr (10, fPR a sz fa nk oo be ho)), ((a 4), .inr (7, fSta y p s)), (y, .inr (9, fYard ay (ysN D.1 D.2.1))), (ay 4, .inl (0, 12, .inl (nF D.2.2.2.2.2.1))), (q, .inl (0, N, .inl (nF f))), (q2, .inl (0, N, .inl (nF g)))] (fun r K' => (lOk D.2.2.2.2.2.1 f n = true ∧ r = some (.int 1) ∧ ∃ g2, K' = [(z, .inr (10, fPR a sz fa nk oo be ho)), ((a 4), .inr (7, fSta y p s)), (y, .inr (9, fYard ay (ysN D.1 D.2.1))), (ay 4, .inl (0, 12, .inl (nF D.2.2.2.2.2.1))), (q, .inl (0, N, .inl (nF f))), (q2, .inl (0, N, .inl (nF g2)))]) ∨ (lOk D.2.2.2.2.2.1 f n = false ∧ r = some (.int 0) ∧ ∃ g2, K' = [(z, .inr (10, fPR a sz fa nk oo be ho)), ((a 4), .inr (7, fSta y p s)), (y, .inr (9, fYard ay (ysN D.1 D.2.1))), (ay 4, .inl (0, 12, .inl (nF D.2.2.2.2.2.1))), (q, .inl (0, N, .inl (nF f))), (q2, .inl (0, N, .inl (nF g2)))])) := by
  refine zSp.of (by decide) (Nat.le_of_ble_eq_true rfl) (fun h0 => ?_)
  show zS _ 0 0 0 [(0, .ref z), (1, .ref q), (2, .int (nI n)), (3, .ref q2)] [] [(z, .inr (10, fPR a sz fa nk oo be ho)), ((a 4), .inr (7, fSta y p s)), (y, .inr (9, fYard ay (ysN D.1 D.2.1))), (ay 4, .inl (0, 12, .inl (nF D.2.2.2.2.2.1))), (q, .inl (0, N, .inl (nF f))), (q2, .inl (0, N, .inl (nF g)))]
  refine zs_aload_n dX12_lastsAnHour_0 rfl rfl ?_
  refine zs_get 0 dX12_lastsAnHour_1 zf_RX12_23 rfl (v := .ref (a 4)) rfl ?_
  refine zs_get 1 dX12_lastsAnHour_4 zf_RX12_96 rfl (v := .ref y) rfl ?_
  refine zs_get 2 dX12_lastsAnHour_7 zf_RX12_172 rfl (v := .ref (ay 4)) rfl ?_
  refine zs_astore (lv' := [(4, .ref (ay 4)), (0, .ref z), (1, .ref q), (2, .int (nI n)), (3, .ref q2)]) dX12_lastsAnHour_10 (Nat.le_of_ble_eq_true rfl) rfl rfl ?_
  refine zs_iconst (v := nI 0) dX12_lastsAnHour_12 (by decide) ?_
  refine zs_istore (lv' := [(5, .int (nI 0)), (4, .ref (ay 4)), (0, .ref z), (1, .ref q), (2, .int (nI n)), (3, .ref q2)]) dX12_lastsAnHour_13 (Nat.le_of_ble_eq_true rfl) rfl ?_
  refine zs_lv [2, 3, 4, 5, 1, 0] rfl ?_
  refine zs_eq (K' := [(z, .inr (10, fPR a sz fa nk oo be ho)), ((a 4), .inr (7, fSta y p s)), (y, .inr (9, fYard ay (ysN D.1 D.2.1))), (ay 4, .inl (0, 12, .inl (nF D.2.2.2.2.2.1))), (q, .inl (0, N, .inl (nF f))), (q2, .inl (0, N, .inl (nF (nCl (fun i => D.2.2.2.2.2.1 (f i)) g 0))))]) (by rw [nCl_0]) ?_
  refine lp_la0 z a sz fa nk oo be ho y p s q q2 N n ay D f g hD hn hN hf ?_ n 0 (Nat.zero_add _)
  refine zs_iconst (v := nI 0) dX12_lastsAnHour_38 (by decide) ?_
  refine zs_istore (lv' := [(5, .int (nI 0)), (0, .ref z), (1, .ref q), (2, .int (nI n)), (3, .ref q2), (4, .ref (ay 4))]) dX12_lastsAnHour_39 (Nat.le_of_ble_eq_true rfl) rfl ?_
  refine zs_lv [1, 2, 3, 4, 5, 0] rfl ?_
  exact lp_la2 z a sz fa nk oo be ho y p s q q2 N n ay D f g hD hn hN hf (fun r K1 h => h) 60 0 (Nat.zero_add _) (fun j hj => absurd hj (Nat.not_lt_zero j))
theorem dX12_relief_0 : decode cX12_relief 0 = .ok (.aload_n 0, 1) := by decide +kernel
theorem dX12_relief_1 : decode cX12_relief 1 = .ok (.iconst 1, 1) := by decide +kernel
theorem dX12_relief_2 : decode cX12_relief 2 = .ok (.bipush 12, 2) := by decide +kernel
theorem dX12_relief_4 : decode cX12_relief 4 = .ok (.invokevirtual 193, 3) := by decide +kernel
theorem dX12_relief_7 : decode cX12_relief 7 = .ok (.astore_n 1, 1) := by decide +kernel
theorem dX12_relief_8 : decode cX12_relief 8 = .ok (.aload_n 1, 1) := by decide +kernel
theorem dX12_relief_9 : decode cX12_relief 9 = .ok (.arraylength, 1) := by decide +kernel
theorem dX12_relief_10 : decode cX12_relief 10 = .ok (.ifCond .ne 6, 3) := by decide +kernel
theorem dX12_relief_13 : decode cX12_relief 13 = .ok (.bipush (-2), 2) := by decide +kernel
theorem dX12_relief_15 : decode cX12_relief 15 = .ok (.ireturn, 1) := by decide +kernel
theorem dX12_relief_16 : decode cX12_relief 16 = .ok (.aload_n 1, 1) := by decide +kernel
theorem dX12_relief_17 : decode cX12_relief 17 = .ok (.arraylength, 1) := by decide +kernel
theorem dX12_relief_18 : decode cX12_relief 18 = .ok (.newarray .int, 2) := by decide +kernel
theorem dX12_relief_20 : decode cX12_relief 20 = .ok (.astore_n 2, 1) := by decide +kernel
theorem dX12_relief_21 : decode cX12_relief 21 = .ok (.iconst 1, 1) := by decide +kernel
theorem dX12_relief_22 : decode cX12_relief 22 = .ok (.istore_n 3, 1) := by decide +kernel
theorem dX12_relief_23 : decode cX12_relief 23 = .ok (.iload_n 3, 1) := by decide +kernel
theorem dX12_relief_24 : decode cX12_relief 24 = .ok (.aload_n 1, 1) := by decide +kernel
theorem dX12_relief_25 : decode cX12_relief 25 = .ok (.arraylength, 1) := by decide +kernel
theorem dX12_relief_26 : decode cX12_relief 26 = .ok (.if_icmp .gt 21, 3) := by decide +kernel
theorem dX12_relief_29 : decode cX12_relief 29 = .ok (.aload_n 0, 1) := by decide +kernel
theorem dX12_relief_30 : decode cX12_relief 30 = .ok (.aload_n 1, 1) := by decide +kernel
theorem dX12_relief_31 : decode cX12_relief 31 = .ok (.iload_n 3, 1) := by decide +kernel
theorem dX12_relief_32 : decode cX12_relief 32 = .ok (.aload_n 2, 1) := by decide +kernel
theorem dX12_relief_33 : decode cX12_relief 33 = .ok (.invokevirtual 292, 3) := by decide +kernel
theorem dX12_relief_36 : decode cX12_relief 36 = .ok (.ifCond .eq 5, 3) := by decide +kernel
theorem dX12_relief_39 : decode cX12_relief 39 = .ok (.iload_n 3, 1) := by decide +kernel
theorem dX12_relief_40 : decode cX12_relief 40 = .ok (.ireturn, 1) := by decide +kernel
theorem dX12_relief_41 : decode cX12_relief 41 = .ok (.iinc 3 1, 3) := by decide +kernel
theorem dX12_relief_44 : decode cX12_relief 44 = .ok (.goto (-21), 3) := by decide +kernel
theorem dX12_relief_47 : decode cX12_relief 47 = .ok (.iconst (-1), 1) := by decide +kernel
theorem dX12_relief_48 : decode cX12_relief 48 = .ok (.ireturn, 1) := by decide +kernel
/-- the least of the m numbers from n on that last -/
def pRl (pw f : Nat → Nat) : Nat → Nat → Option Nat
  | 0, _ => none
  | m + 1, n => if lOk pw f n = true then some n else pRl pw f m (n + 1)
theorem pRl_le {pw f : Nat → Nat} : ∀ (m n k : Nat), pRl pw f m n = some k → k < n + m
  | 0, _, _, h => nomatch h
  | m + 1, n, k, h => by
    rw [pRl] at h
    split at h
    · cases h
      omega
    · have := pRl_le m (n + 1) k h
      omega
set_option maxRecDepth 100000 in
theorem lp_rel {l : Launch} {dd : Nat} {Po : zPo} {K0 : zK} {h0 : List va_E} {Xo : zK → Prop} {Gc : zG → Prop} (z : Nat) (a : Nat → Nat) (sz fa nk oo be ho : Nat) (y p s : Nat) (ay : Nat → Nat) (D : zYd) (bt : Nat → Nat) (q q2 : Nat) (hd : 4 ≤ dd) (hsz : sz ≤ 740) (hbt : ∀ j, bt j < 256) (hD : yI D) (hM : 1 ≤ (pMn bt sz (D.1 0) 1 12) ∧ (pMn bt sz (D.1 0) 1 12) ≤ 12 ∧ (pMn bt sz (D.1 0) 1 12) = sz ∧ (∀ i, i < (pMn bt sz (D.1 0) 1 12) → bt i < D.1 0) ∧ (∀ i, i < (pMn bt sz (D.1 0) 1 12) → ∀ j, j < i → bt j ≠ bt i)) (W : Option Nat) (hP : ∀ r K', r = some (.int (oI W)) ∧ K' = [(z, .inr (10, fPR a 0 fa nk oo be ho)), (a 0, .inl (0, 740, .inl (nF bt))), ((a 4), .inr (7, fSta y p s)), (y, .inr (9, fYard ay (ysN D.1 D.2.1))), (ay 4, .inl (0, 12, .inl (nF D.2.2.2.2.2.1)))] → Po r K') : ∀ (m n : Nat) (g : Nat → Nat), n + m = (pMn bt sz (D.1 0) 1 12) + 1 → 1 ≤ n → pRl D.2.2.2.2.2.1 (nCl bt (fun _ => 0) (pMn bt sz (D.1 0) 1 12)) m n = W → zS (l, mX12_relief, dd, Po, K0, h0, Xo, Gc) 0 0 23 [(0, .ref z), (1, .ref q), (2, .ref q2), (3, .int (nI n))] [] [(z, .inr (10, fPR a 0 fa nk oo be ho)), (a 0, .inl (0, 740, .inl (nF bt))), ((a 4), .inr (7, fSta y p s)), (y, .inr (9, fYard ay (ysN D.1 D.2.1))), (ay 4, .inl (0, 12, .inl (nF D.2.2.2.2.2.1))), (q, .inl (0, (pMn bt sz (D.1 0) 1 12), .inl (nF (nCl bt (fun _ => 0) (pMn bt sz (D.1 0) 1 12))))), (q2, .inl (0, (pMn bt sz (D.1 0) 1 12), .inl (nF g)))] := by
  intro m
  induction m with
  | zero =>
    intro n g hm hn hW
    refine zs_iload_n dX12_relief_23 rfl ?_
    have hM12 := hM.2.1
    refine zs_aload_n dX12_relief_24 rfl rfl ?_
    refine zs_alen (v := (nI (pMn bt sz (D.1 0) 1 12))) 5 dX12_relief_25 rfl (by decide) rfl ?_
    refine zs_icmp_gt (tgt := 47) dX12_relief_26 (by decide) (fun c_1 => ?_) (fun c_1 => (c_1 (by rw [nI_lt' (by omega) (by omega)]; omega) : False).elim)
    refine zs_iconst (v := (-1)) dX12_relief_47 (by decide) ?_
    refine zs_K (K' := [(z, .inr (10, fPR a 0 fa nk oo be ho)), (a 0, .inl (0, 740, .inl (nF bt))), ((a 4), .inr (7, fSta y p s)), (y, .inr (9, fYard ay (ysN D.1 D.2.1))), (ay 4, .inl (0, 12, .inl (nF D.2.2.2.2.2.1)))]) [0, 1, 2, 3, 4] rfl (by decide) ?_
    exact zs_iret dX12_relief_48 rfl (hP _ _ ⟨by rw [← hW]; rfl, rfl⟩)
  | succ m ih =>
    intro n g hm hn hW
    refine zs_iload_n dX12_relief_23 rfl ?_
    have hM12 := hM.2.1
    refine zs_aload_n dX12_relief_24 rfl rfl ?_
    refine zs_alen (v := (nI (pMn bt sz (D.1 0) 1 12))) 5 dX12_relief_25 rfl (by decide) rfl ?_
    refine zs_icmp_gt (tgt := 47) dX12_relief_26 (by decide) (fun c_1 => (absurd c_1 (by rw [nI_lt' (by omega) (by omega)]; omega) : False).elim) (fun c_1 => ?_)
    refine zs_aload_n dX12_relief_29 rfl rfl ?_
    refine zs_aload_n dX12_relief_30 rfl rfl ?_
    refine zs_iload_n dX12_relief_31 rfl ?_
    refine zs_aload_n dX12_relief_32 rfl rfl ?_
    refine zs_callV (M := mX12_lastsAnHour) (As := [.ref q, .int (nI n), .ref q2]) (st := []) (Kc := [(z, .inr (10, fPR a 0 fa nk oo be ho)), ((a 4), .inr (7, fSta y p s)), (y, .inr (9, fYard ay (ysN D.1 D.2.1))), (ay 4, .inl (0, 12, .inl (nF D.2.2.2.2.2.1))), (q, .inl (0, (pMn bt sz (D.1 0) 1 12), .inl (nF (nCl bt (fun _ => 0) (pMn bt sz (D.1 0) 1 12))))), (q2, .inl (0, (pMn bt sz (D.1 0) 1 12), .inl (nF g)))]) (Kr := [(a 0, .inl (0, 740, .inl (nF bt)))]) [0, 2, 3, 4, 5, 6] [1] 0 dX12_relief_33 zl_RX12_292 kX12_lastsAnHour rfl rfl rfl rfl rfl (by decide) rfl rfl (show dd - 1 + 1 ≤ dd by omega) (Nat.zero_le _) (Nat.zero_le _) (Nat.le_of_ble_eq_true rfl) (s_lasts l (dd - 1) z a 0 fa nk oo be ho y p s q q2 (pMn bt sz (D.1 0) 1 12) n ay D (nCl bt (fun _ => 0) (pMn bt sz (D.1 0) 1 12)) g hD ⟨by omega, by omega⟩ hM.2.1 (nCl_f hM.2.2.2.1)) (fun r K1 hr => ?_)
    rcases hr with ⟨hq, rfl, g2, rfl⟩ | ⟨hq, rfl, g2, rfl⟩
    · refine zs_K (K' := [(z, .inr (10, fPR a 0 fa nk oo be ho)), (a 0, .inl (0, 740, .inl (nF bt))), ((a 4), .inr (7, fSta y p s)), (y, .inr (9, fYard ay (ysN D.1 D.2.1))), (ay 4, .inl (0, 12, .inl (nF D.2.2.2.2.2.1))), (q, .inl (0, (pMn bt sz (D.1 0) 1 12), .inl (nF (nCl bt (fun _ => 0) (pMn bt sz (D.1 0) 1 12))))), (q2, .inl (0, (pMn bt sz (D.1 0) 1 12), .inl (nF g2)))]) [1, 0, 2, 3, 4, 5, 6] rfl (by decide) ?_
      refine zs_if_eq (tgt := 41) dX12_relief_36 (by decide) (fun c_2 => (by first | exact absurd c_2 (by decide) | exact absurd (by decide) c_2 : False).elim) (fun c_2 => ?_)
      refine zs_iload_n dX12_relief_39 rfl ?_
      refine zs_K (K' := [(z, .inr (10, fPR a 0 fa nk oo be ho)), (a 0, .inl (0, 740, .inl (nF bt))), ((a 4), .inr (7, fSta y p s)), (y, .inr (9, fYard ay (ysN D.1 D.2.1))), (ay 4, .inl (0, 12, .inl (nF D.2.2.2.2.2.1)))]) [0, 1, 2, 3, 4] rfl (by decide) ?_
      exact zs_iret dX12_relief_40 rfl (hP _ _ ⟨by rw [← hW, pRl, if_pos hq]; rfl, rfl⟩)
    · refine zs_K (K' := [(z, .inr (10, fPR a 0 fa nk oo be ho)), (a 0, .inl (0, 740, .inl (nF bt))), ((a 4), .inr (7, fSta y p s)), (y, .inr (9, fYard ay (ysN D.1 D.2.1))), (ay 4, .inl (0, 12, .inl (nF D.2.2.2.2.2.1))), (q, .inl (0, (pMn bt sz (D.1 0) 1 12), .inl (nF (nCl bt (fun _ => 0) (pMn bt sz (D.1 0) 1 12))))), (q2, .inl (0, (pMn bt sz (D.1 0) 1 12), .inl (nF g2)))]) [1, 0, 2, 3, 4, 5, 6] rfl (by decide) ?_
      refine zs_if_eq (tgt := 41) dX12_relief_36 (by decide) (fun c_3 => ?_) (fun c_3 => (by first | exact absurd c_3 (by decide) | exact absurd (by decide) c_3 : False).elim)
      refine zs_iinc (v := (nI (n + 1))) (lv' := [(3, .int (nI (n + 1))), (0, .ref z), (1, .ref q), (2, .ref q2)]) dX12_relief_41 rfl (nI_add _ 1) (Nat.le_of_ble_eq_true rfl) rfl ?_
      refine zs_goto (tgt := 23) dX12_relief_44 (by decide) ?_
      refine zs_lv [1, 2, 3, 0] rfl ?_
      exact ih (n + 1) g2 (by omega) (by omega) (by rw [← hW, pRl, if_neg (fun h => by rw [hq] at h; exact absurd h (by decide))])
set_option maxRecDepth 100000 in
theorem s_relief (l : Launch) (dd : Nat) (z : Nat) (a : Nat → Nat) (sz fa nk oo be ho : Nat) (y p s : Nat) (ay : Nat → Nat) (D : zYd) (bt : Nat → Nat) (hd : 4 ≤ dd) (hsz : sz ≤ 740) (hbt : ∀ j, bt j < 256) (hD : yI D) : zSp l mX12_relief dd 2 (sz + 12) [.ref z] [(z, .inr (10, fPR a sz fa nk oo be ho)), (a 0, .inl (0, 740, .inl (nF bt))), ((a 4), .inr (7, fSta y p s)), (y, .inr (9, fYard ay (ysN D.1 D.2.1))), (ay 4, .inl (0, 12, .inl (nF D.2.2.2.2.2.1)))] (fun r K' => ((pMn bt sz (D.1 0) 1 12) = 0 ∧ r = some (.int (-2)) ∧ K' = [(z, .inr (10, fPR a 0 fa nk oo be ho)), (a 0, .inl (0, 740, .inl (nF bt))), ((a 4), .inr (7, fSta y p s)), (y, .inr (9, fYard ay (ysN D.1 D.2.1))), (ay 4, .inl (0, 12, .inl (nF D.2.2.2.2.2.1)))]) ∨ (¬ (pMn bt sz (D.1 0) 1 12) = 0 ∧ r = some (.int (oI (pRl D.2.2.2.2.2.1 (nCl bt (fun _ => 0) (pMn bt sz (D.1 0) 1 12)) (pMn bt sz (D.1 0) 1 12) 1))) ∧ K' = [(z, .inr (10, fPR a 0 fa nk oo be ho)), (a 0, .inl (0, 740, .inl (nF bt))), ((a 4), .inr (7, fSta y p s)), (y, .inr (9, fYard ay (ysN D.1 D.2.1))), (ay 4, .inl (0, 12, .inl (nF D.2.2.2.2.2.1)))])) := by
  refine zSp.of (by decide) (Nat.le_of_ble_eq_true rfl) (fun h0 => ?_)
  show zS _ 2 (sz + 12) 0 [(0, .ref z)] [] [(z, .inr (10, fPR a sz fa nk oo be ho)), (a 0, .inl (0, 740, .inl (nF bt))), ((a 4), .inr (7, fSta y p s)), (y, .inr (9, fYard ay (ysN D.1 D.2.1))), (ay 4, .inl (0, 12, .inl (nF D.2.2.2.2.2.1)))]
  obtain ⟨y1, y2, y3, y4, y5, y6, y7, y8, y9, y10, y11, y12, y13, y14, y15, y16, y17, y18, y19, y20⟩ := id hD
  refine zs_aload_n dX12_relief_0 rfl rfl ?_
  refine zs_iconst (v := nI 1) dX12_relief_1 (by decide) ?_
  refine zs_bipush (v := nI 12) dX12_relief_2 (by decide) ?_
  have hMle : (pMn bt sz (D.1 0) 1 12) ≤ 12 := pMn_le
  refine zs_callV (M := mX12_takeMen) (As := [.int (nI 1), .int (nI 12)]) (st := []) (Kc := [(z, .inr (10, fPR a sz fa nk oo be ho)), (a 0, .inl (0, 740, .inl (nF bt))), ((a 4), .inr (7, fSta y p s)), (y, .inr (9, fYard ay (ysN D.1 D.2.1)))]) (Kr := [(ay 4, .inl (0, 12, .inl (nF D.2.2.2.2.2.1)))]) [0, 1, 2, 3] [4] 0 dX12_relief_4 zl_RX12_193 kX12_takeMen rfl rfl rfl rfl rfl (by decide) rfl rfl (show dd - 1 + 1 ≤ dd by omega) (by omega) (by omega) (Nat.le_of_ble_eq_true rfl) (s_takeMen l (dd - 1) z a sz fa nk oo be ho bt y p s ay D 1 12 (by omega) hsz (by omega) (by omega) (by omega) hbt) (fun r K1 hr => ?_)
  obtain ⟨q, rfl, rfl⟩ := hr
  refine zs_K (K' := [(z, .inr (10, fPR a 0 fa nk oo be ho)), (a 0, .inl (0, 740, .inl (nF bt))), ((a 4), .inr (7, fSta y p s)), (y, .inr (9, fYard ay (ysN D.1 D.2.1))), (ay 4, .inl (0, 12, .inl (nF D.2.2.2.2.2.1))), (q, .inl (0, (pMn bt sz (D.1 0) 1 12), .inl (nF (nCl bt (fun _ => 0) (pMn bt sz (D.1 0) 1 12)))))]) [1, 2, 3, 4, 0, 5] rfl (by decide) ?_
  refine zs_astore_n (lv' := [(1, .ref q), (0, .ref z)]) dX12_relief_7 (Nat.le_of_ble_eq_true rfl) rfl rfl ?_
  refine zs_aload_n dX12_relief_8 rfl rfl ?_
  refine zs_alen (v := (nI (pMn bt sz (D.1 0) 1 12))) 5 dX12_relief_9 rfl (by decide) rfl ?_
  refine zs_if_ne (tgt := 16) dX12_relief_10 (by decide) (fun c_1 => ?_) (fun c_1 => ?_)
  · have c_1 : ¬ ((pMn bt sz (D.1 0) 1 12) = 0) := by have hc := c_1; rw [show (0 : Int32) = nI 0 from rfl] at hc; rw [nI_eq' (by omega) (by omega)] at hc; exact hc
    have hM := pMn_k c_1
    refine zs_aload_n dX12_relief_16 rfl rfl ?_
    refine zs_alen (v := (nI (pMn bt sz (D.1 0) 1 12))) 5 dX12_relief_17 rfl (by decide) rfl ?_
    refine zs_newa_int (N := (pMn bt sz (D.1 0) 1 12)) dX12_relief_18 (fun h => absurd h (by rw [show (0 : Int32) = nI 0 from rfl, nI_lt' (by omega) (by omega)]; omega)) (nI_c (by omega)) (by omega) (by first | omega | (simp only [List.length_cons, List.length_nil]; omega)) (by first | omega | (simp only [List.length_cons, List.length_nil]; omega)) (fun q2 => ?_)
    show zS _ _ _ _ _ _ [(z, .inr (10, fPR a 0 fa nk oo be ho)), (a 0, .inl (0, 740, .inl (nF bt))), ((a 4), .inr (7, fSta y p s)), (y, .inr (9, fYard ay (ysN D.1 D.2.1))), (ay 4, .inl (0, 12, .inl (nF D.2.2.2.2.2.1))), (q, .inl (0, (pMn bt sz (D.1 0) 1 12), .inl (nF (nCl bt (fun _ => 0) (pMn bt sz (D.1 0) 1 12))))), (q2, .inl (0, (pMn bt sz (D.1 0) 1 12), .inl (fun _ => 0)))]
    refine zs_astore_n (lv' := [(2, .ref q2), (1, .ref q), (0, .ref z)]) dX12_relief_20 (Nat.le_of_ble_eq_true rfl) rfl rfl ?_
    refine zs_iconst (v := nI 1) dX12_relief_21 (by decide) ?_
    refine zs_istore_n (lv' := [(3, .int (nI 1)), (2, .ref q2), (1, .ref q), (0, .ref z)]) dX12_relief_22 (Nat.le_of_ble_eq_true rfl) rfl ?_
    refine zs_kc (Nat.zero_le _) (Nat.zero_le _) (?_ : zS _ 0 0 _ _ _ _)
    refine zs_lv [3, 2, 1, 0] rfl ?_
    exact lp_rel z a sz fa nk oo be ho y p s ay D bt q q2 (by omega) hsz hbt hD hM (pRl D.2.2.2.2.2.1 (nCl bt (fun _ => 0) (pMn bt sz (D.1 0) 1 12)) (pMn bt sz (D.1 0) 1 12) 1) (fun r K1 h => Or.inr ⟨c_1, h⟩) (pMn bt sz (D.1 0) 1 12) 1 (fun _ => 0) (by omega) (Nat.le_refl _) rfl
  · have c_1 : (pMn bt sz (D.1 0) 1 12) = 0 := by have hc := c_1; rw [show (0 : Int32) = nI 0 from rfl] at hc; rw [nI_eq' (by omega) (by omega)] at hc; exact hc
    refine zs_bipush (v := (-2)) dX12_relief_13 (by decide) ?_
    refine zs_K (K' := [(z, .inr (10, fPR a 0 fa nk oo be ho)), (a 0, .inl (0, 740, .inl (nF bt))), ((a 4), .inr (7, fSta y p s)), (y, .inr (9, fYard ay (ysN D.1 D.2.1))), (ay 4, .inl (0, 12, .inl (nF D.2.2.2.2.2.1)))]) [0, 1, 2, 3, 4] rfl (by decide) ?_
    exact zs_iret dX12_relief_15 rfl (Or.inl ⟨c_1, rfl, rfl⟩)
