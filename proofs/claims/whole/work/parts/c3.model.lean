/-! ===== the reference: relief() ===== -/
theorem dX13_canThrow_0 : decode cX13_canThrow 0 = .ok (.iconst 0, 1) := by decide +kernel
theorem dX13_canThrow_1 : decode cX13_canThrow 1 = .ok (.istore_n 2, 1) := by decide +kernel
theorem dX13_canThrow_2 : decode cX13_canThrow 2 = .ok (.iload_n 2, 1) := by decide +kernel
theorem dX13_canThrow_3 : decode cX13_canThrow 3 = .ok (.iload_n 1, 1) := by decide +kernel
theorem dX13_canThrow_4 : decode cX13_canThrow 4 = .ok (.if_icmp .ge 26, 3) := by decide +kernel
theorem dX13_canThrow_7 : decode cX13_canThrow 7 = .ok (.aload_n 0, 1) := by decide +kernel
theorem dX13_canThrow_8 : decode cX13_canThrow 8 = .ok (.getfield 90, 3) := by decide +kernel
theorem dX13_canThrow_11 : decode cX13_canThrow 11 = .ok (.iload_n 2, 1) := by decide +kernel
theorem dX13_canThrow_12 : decode cX13_canThrow 12 = .ok (.aload_n 0, 1) := by decide +kernel
theorem dX13_canThrow_13 : decode cX13_canThrow 13 = .ok (.aload_n 0, 1) := by decide +kernel
theorem dX13_canThrow_14 : decode cX13_canThrow 14 = .ok (.getfield 39, 3) := by decide +kernel
theorem dX13_canThrow_17 : decode cX13_canThrow 17 = .ok (.iload_n 2, 1) := by decide +kernel
theorem dX13_canThrow_18 : decode cX13_canThrow 18 = .ok (.iaload, 1) := by decide +kernel
theorem dX13_canThrow_19 : decode cX13_canThrow 19 = .ok (.iconst 2, 1) := by decide +kernel
theorem dX13_canThrow_20 : decode cX13_canThrow 20 = .ok (.invokevirtual 294, 3) := by decide +kernel
theorem dX13_canThrow_23 : decode cX13_canThrow 23 = .ok (.iastore, 1) := by decide +kernel
theorem dX13_canThrow_24 : decode cX13_canThrow 24 = .ok (.iinc 2 1, 3) := by decide +kernel
theorem dX13_canThrow_27 : decode cX13_canThrow 27 = .ok (.goto (-25), 3) := by decide +kernel
theorem dX13_canThrow_30 : decode cX13_canThrow 30 = .ok (.iconst 0, 1) := by decide +kernel
theorem dX13_canThrow_31 : decode cX13_canThrow 31 = .ok (.istore_n 2, 1) := by decide +kernel
theorem dX13_canThrow_32 : decode cX13_canThrow 32 = .ok (.iload_n 2, 1) := by decide +kernel
theorem dX13_canThrow_33 : decode cX13_canThrow 33 = .ok (.bipush 60, 2) := by decide +kernel
theorem dX13_canThrow_35 : decode cX13_canThrow 35 = .ok (.if_icmp .ge 89, 3) := by decide +kernel
theorem dX13_canThrow_38 : decode cX13_canThrow 38 = .ok (.iload_n 2, 1) := by decide +kernel
theorem dX13_canThrow_39 : decode cX13_canThrow 39 = .ok (.iload_n 1, 1) := by decide +kernel
theorem dX13_canThrow_40 : decode cX13_canThrow 40 = .ok (.irem, 1) := by decide +kernel
theorem dX13_canThrow_41 : decode cX13_canThrow 41 = .ok (.istore_n 3, 1) := by decide +kernel
theorem dX13_canThrow_42 : decode cX13_canThrow 42 = .ok (.aload_n 0, 1) := by decide +kernel
theorem dX13_canThrow_43 : decode cX13_canThrow 43 = .ok (.getfield 90, 3) := by decide +kernel
theorem dX13_canThrow_46 : decode cX13_canThrow 46 = .ok (.iload_n 3, 1) := by decide +kernel
theorem dX13_canThrow_47 : decode cX13_canThrow 47 = .ok (.iaload, 1) := by decide +kernel
theorem dX13_canThrow_48 : decode cX13_canThrow 48 = .ok (.iconst 3, 1) := by decide +kernel
theorem dX13_canThrow_49 : decode cX13_canThrow 49 = .ok (.if_icmp .ge 5, 3) := by decide +kernel
theorem dX13_canThrow_52 : decode cX13_canThrow 52 = .ok (.iconst 0, 1) := by decide +kernel
theorem dX13_canThrow_53 : decode cX13_canThrow 53 = .ok (.ireturn, 1) := by decide +kernel
theorem dX13_canThrow_54 : decode cX13_canThrow 54 = .ok (.aload_n 0, 1) := by decide +kernel
theorem dX13_canThrow_55 : decode cX13_canThrow 55 = .ok (.getfield 90, 3) := by decide +kernel
theorem dX13_canThrow_58 : decode cX13_canThrow 58 = .ok (.iload_n 3, 1) := by decide +kernel
theorem dX13_canThrow_59 : decode cX13_canThrow 59 = .ok (.dup2, 1) := by decide +kernel
theorem dX13_canThrow_60 : decode cX13_canThrow 60 = .ok (.iaload, 1) := by decide +kernel
theorem dX13_canThrow_61 : decode cX13_canThrow 61 = .ok (.iconst 3, 1) := by decide +kernel
theorem dX13_canThrow_62 : decode cX13_canThrow 62 = .ok (.isub, 1) := by decide +kernel
theorem dX13_canThrow_63 : decode cX13_canThrow 63 = .ok (.iastore, 1) := by decide +kernel
theorem dX13_canThrow_64 : decode cX13_canThrow 64 = .ok (.iconst 0, 1) := by decide +kernel
theorem dX13_canThrow_65 : decode cX13_canThrow 65 = .ok (.istore 4, 2) := by decide +kernel
theorem dX13_canThrow_67 : decode cX13_canThrow 67 = .ok (.iload 4, 2) := by decide +kernel
theorem dX13_canThrow_69 : decode cX13_canThrow 69 = .ok (.iload_n 1, 1) := by decide +kernel
theorem dX13_canThrow_70 : decode cX13_canThrow 70 = .ok (.if_icmp .ge 48, 3) := by decide +kernel
theorem dX13_canThrow_73 : decode cX13_canThrow 73 = .ok (.iload 4, 2) := by decide +kernel
theorem dX13_canThrow_75 : decode cX13_canThrow 75 = .ok (.iload_n 3, 1) := by decide +kernel
theorem dX13_canThrow_76 : decode cX13_canThrow 76 = .ok (.if_icmp .eq 36, 3) := by decide +kernel
theorem dX13_canThrow_79 : decode cX13_canThrow 79 = .ok (.aload_n 0, 1) := by decide +kernel
theorem dX13_canThrow_80 : decode cX13_canThrow 80 = .ok (.getfield 90, 3) := by decide +kernel
theorem dX13_canThrow_83 : decode cX13_canThrow 83 = .ok (.iload 4, 2) := by decide +kernel
theorem dX13_canThrow_85 : decode cX13_canThrow 85 = .ok (.iaload, 1) := by decide +kernel
theorem dX13_canThrow_86 : decode cX13_canThrow 86 = .ok (.aload_n 0, 1) := by decide +kernel
theorem dX13_canThrow_87 : decode cX13_canThrow 87 = .ok (.aload_n 0, 1) := by decide +kernel
theorem dX13_canThrow_88 : decode cX13_canThrow 88 = .ok (.getfield 39, 3) := by decide +kernel
theorem dX13_canThrow_91 : decode cX13_canThrow 91 = .ok (.iload 4, 2) := by decide +kernel
theorem dX13_canThrow_93 : decode cX13_canThrow 93 = .ok (.iaload, 1) := by decide +kernel
theorem dX13_canThrow_94 : decode cX13_canThrow 94 = .ok (.iconst 2, 1) := by decide +kernel
theorem dX13_canThrow_95 : decode cX13_canThrow 95 = .ok (.invokevirtual 294, 3) := by decide +kernel
theorem dX13_canThrow_98 : decode cX13_canThrow 98 = .ok (.if_icmp .ge 14, 3) := by decide +kernel
theorem dX13_canThrow_101 : decode cX13_canThrow 101 = .ok (.aload_n 0, 1) := by decide +kernel
theorem dX13_canThrow_102 : decode cX13_canThrow 102 = .ok (.getfield 90, 3) := by decide +kernel
theorem dX13_canThrow_105 : decode cX13_canThrow 105 = .ok (.iload 4, 2) := by decide +kernel
theorem dX13_canThrow_107 : decode cX13_canThrow 107 = .ok (.dup2, 1) := by decide +kernel
theorem dX13_canThrow_108 : decode cX13_canThrow 108 = .ok (.iaload, 1) := by decide +kernel
theorem dX13_canThrow_109 : decode cX13_canThrow 109 = .ok (.iconst 1, 1) := by decide +kernel
theorem dX13_canThrow_110 : decode cX13_canThrow 110 = .ok (.iadd, 1) := by decide +kernel
theorem dX13_canThrow_111 : decode cX13_canThrow 111 = .ok (.iastore, 1) := by decide +kernel
theorem dX13_canThrow_112 : decode cX13_canThrow 112 = .ok (.iinc 4 1, 3) := by decide +kernel
theorem dX13_canThrow_115 : decode cX13_canThrow 115 = .ok (.goto (-48), 3) := by decide +kernel
theorem dX13_canThrow_118 : decode cX13_canThrow 118 = .ok (.iinc 2 1, 3) := by decide +kernel
theorem dX13_canThrow_121 : decode cX13_canThrow 121 = .ok (.goto (-89), 3) := by decide +kernel
theorem dX13_canThrow_124 : decode cX13_canThrow 124 = .ok (.iconst 1, 1) := by decide +kernel
theorem dX13_canThrow_125 : decode cX13_canThrow 125 = .ok (.ireturn, 1) := by decide +kernel
theorem dX13_relief_0 : decode cX13_relief 0 = .ok (.aload_n 0, 1) := by decide +kernel
theorem dX13_relief_1 : decode cX13_relief 1 = .ok (.iconst 0, 1) := by decide +kernel
theorem dX13_relief_2 : decode cX13_relief 2 = .ok (.putfield 148, 3) := by decide +kernel
theorem dX13_relief_5 : decode cX13_relief 5 = .ok (.aload_n 0, 1) := by decide +kernel
theorem dX13_relief_6 : decode cX13_relief 6 = .ok (.iconst 1, 1) := by decide +kernel
theorem dX13_relief_7 : decode cX13_relief 7 = .ok (.bipush 12, 2) := by decide +kernel
theorem dX13_relief_9 : decode cX13_relief 9 = .ok (.iconst 1, 1) := by decide +kernel
theorem dX13_relief_10 : decode cX13_relief 10 = .ok (.invokevirtual 372, 3) := by decide +kernel
theorem dX13_relief_13 : decode cX13_relief 13 = .ok (.ifCond .ne 6, 3) := by decide +kernel
theorem dX13_relief_16 : decode cX13_relief 16 = .ok (.bipush (-2), 2) := by decide +kernel
theorem dX13_relief_18 : decode cX13_relief 18 = .ok (.ireturn, 1) := by decide +kernel
theorem dX13_relief_19 : decode cX13_relief 19 = .ok (.iconst 1, 1) := by decide +kernel
theorem dX13_relief_20 : decode cX13_relief 20 = .ok (.istore_n 1, 1) := by decide +kernel
theorem dX13_relief_21 : decode cX13_relief 21 = .ok (.iload_n 1, 1) := by decide +kernel
theorem dX13_relief_22 : decode cX13_relief 22 = .ok (.aload_n 0, 1) := by decide +kernel
theorem dX13_relief_23 : decode cX13_relief 23 = .ok (.getfield 304, 3) := by decide +kernel
theorem dX13_relief_26 : decode cX13_relief 26 = .ok (.if_icmp .gt 19, 3) := by decide +kernel
theorem dX13_relief_29 : decode cX13_relief 29 = .ok (.aload_n 0, 1) := by decide +kernel
theorem dX13_relief_30 : decode cX13_relief 30 = .ok (.iload_n 1, 1) := by decide +kernel
theorem dX13_relief_31 : decode cX13_relief 31 = .ok (.invokevirtual 408, 3) := by decide +kernel
theorem dX13_relief_34 : decode cX13_relief 34 = .ok (.ifCond .eq 5, 3) := by decide +kernel
theorem dX13_relief_37 : decode cX13_relief 37 = .ok (.iload_n 1, 1) := by decide +kernel
theorem dX13_relief_38 : decode cX13_relief 38 = .ok (.ireturn, 1) := by decide +kernel
theorem dX13_relief_39 : decode cX13_relief 39 = .ok (.iinc 1 1, 3) := by decide +kernel
theorem dX13_relief_42 : decode cX13_relief 42 = .ok (.goto (-21), 3) := by decide +kernel
theorem dX13_relief_45 : decode cX13_relief 45 = .ok (.iconst (-1), 1) := by decide +kernel
theorem dX13_relief_46 : decode cX13_relief 46 = .ok (.ireturn, 1) := by decide +kernel
theorem lSt_s {P f : Nat → Nat} {n m x : Nat} : lSt P f n (m + 1) x = if x = m % n then lSt P f n m x - 3 else if lSt P f n m x < P (f x) then lSt P f n m x + 1 else lSt P f n m x := rfl
/-- what is left to the men within a minute, the first j done -/
def cQ (P f pw0 : Nat → Nat) (n m j : Nat) : Nat → Nat := fun x => if x = m % n then lSt P f n m x - 3 else if x < j then lSt P f n (m + 1) x else nCl (lSt P f n m) pw0 n x
section
variable {P f pw0 : Nat → Nat} {n m j : Nat}
theorem cQ_0 : un (nCl (lSt P f n m) pw0 n) (m % n) (lSt P f n m (m % n) - 3) = cQ P f pw0 n m 0 := by
  funext x
  unfold un cQ
  by_cases h : x = m % n
  · rw [if_pos h, if_pos h, h]
  · rw [if_neg h, if_neg h, if_neg (Nat.not_lt_zero x)]
theorem cQ_n (hn : 0 < n) : cQ P f pw0 n m n = nCl (lSt P f n (m + 1)) pw0 n := by
  funext x
  unfold cQ
  have hl := Nat.mod_lt m hn
  by_cases h : x = m % n
  · rw [if_pos h, nCl_s (show x < n by omega), lSt_s, if_pos h]
  · rw [if_neg h]
    by_cases h2 : x < n
    · rw [if_pos h2, nCl_s h2]
    · rw [if_neg h2]
      exact (if_neg h2).trans (if_neg h2).symm
theorem cQ_at (hj : j < n) (h : ¬ j = m % n) : cQ P f pw0 n m j j = lSt P f n m j := by
  unfold cQ
  rw [if_neg h, if_neg (Nat.lt_irrefl j), nCl_s hj]
theorem cQ_s1 (h : j = m % n) : cQ P f pw0 n m j = cQ P f pw0 n m (j + 1) := by
  funext x
  unfold cQ
  by_cases h1 : x = m % n
  · rw [if_pos h1, if_pos h1]
  · rw [if_neg h1, if_neg h1]
    by_cases h2 : x < j
    · rw [if_pos h2, if_pos (by omega)]
    · rw [if_neg h2, if_neg (by omega)]
theorem cQ_u (hj : j < n) (h : ¬ j = m % n) : un (cQ P f pw0 n m j) j (lSt P f n (m + 1) j) = cQ P f pw0 n m (j + 1) := by
  funext x
  unfold un cQ
  by_cases hx : x = j
  · rw [if_pos hx, if_neg (by omega), if_pos (by omega), hx]
  · rw [if_neg hx]
    by_cases h1 : x = m % n
    · rw [if_pos h1, if_pos h1]
    · rw [if_neg h1, if_neg h1]
      by_cases h2 : x < j
      · rw [if_pos h2, if_pos (by omega)]
      · rw [if_neg h2, if_neg (by omega)]
theorem cQ_s3 (hj : j < n) (h : ¬ j = m % n) (h3 : ¬ lSt P f n m j < P (f j)) : cQ P f pw0 n m j = cQ P f pw0 n m (j + 1) := by
  rw [← cQ_u hj h]
  have e : lSt P f n (m + 1) j = cQ P f pw0 n m j j := by rw [cQ_at hj h, lSt_s, if_neg h, if_neg h3]
  rw [e]
  funext x
  unfold un
  by_cases hx : x = j
  · rw [if_pos hx, hx]
  · rw [if_neg hx]
theorem cQ_s2 (hj : j < n) (h : ¬ j = m % n) (h3 : lSt P f n m j < P (f j)) : un (cQ P f pw0 n m j) j (lSt P f n m j + 1) = cQ P f pw0 n m (j + 1) := by
  rw [← cQ_u hj h, lSt_s, if_neg h, if_pos h3]
end
set_option maxRecDepth 100000 in
theorem lp_mc1 {l : Launch} {dd : Nat} {Po : zPo} {K0 : zK} {h0 : List va_E} {Xo : zK → Prop} {Gc : zG → Prop} (mo : Nat) (e : Nat → Nat) (g : Nat → Int32) (w : Int64) (nw : Nat → Int32) (D : zYd) (M : zRs) (f pw : Nat → Nat) (n : Nat) (hd : 1 ≤ dd) (hR : yR D nw) (hD : yI D) (hn : 1 ≤ n ∧ n ≤ 12) (hft : ∀ p, p < n → M.2 24 p = f p) (hfD : ∀ p, p < n → f p < D.1 0)
    (hk : zS (l, mX13_canThrow, dd, Po, K0, h0, Xo, Gc) 0 0 30 [(0, .ref mo), (1, .int (nI n))] [] [(mo, .inr (11, fMo e (mg g M.1) w)), ((e 14), .inl (0, 800, .inl nw)), ((e 24), .inl (0, 12, .inl (nF (M.2 24)))), ((e 25), .inl (0, 12, .inl (nF (M.2 25)))), ((e 26), .inl (0, 12, .inl (nF (M.2 26)))), ((e 27), .inl (0, 12, .inl (nF (M.2 27)))), ((e 28), .inl (0, 360, .inl (nF (M.2 28)))), ((e 29), .inl (0, 12, .inl (nF (M.2 29)))), ((e 30), .inl (0, 12, .inl (nF (M.2 30)))), ((e 31), .inl (0, 30, .inl (nF (M.2 31)))), ((e 32), .inl (0, 12, .inl (nF (M.2 32)))), ((e 56), .inl (0, 12, .inl (nF (nCl (fun i => D.2.2.2.2.2.1 (f i)) pw n))))]) :
    ∀ (m i : Nat) , i + m = n → zS (l, mX13_canThrow, dd, Po, K0, h0, Xo, Gc) 0 0 2 [(0, .ref mo), (1, .int (nI n)), (2, .int (nI i))] [] [(mo, .inr (11, fMo e (mg g M.1) w)), ((e 14), .inl (0, 800, .inl nw)), ((e 24), .inl (0, 12, .inl (nF (M.2 24)))), ((e 25), .inl (0, 12, .inl (nF (M.2 25)))), ((e 26), .inl (0, 12, .inl (nF (M.2 26)))), ((e 27), .inl (0, 12, .inl (nF (M.2 27)))), ((e 28), .inl (0, 360, .inl (nF (M.2 28)))), ((e 29), .inl (0, 12, .inl (nF (M.2 29)))), ((e 30), .inl (0, 12, .inl (nF (M.2 30)))), ((e 31), .inl (0, 30, .inl (nF (M.2 31)))), ((e 32), .inl (0, 12, .inl (nF (M.2 32)))), ((e 56), .inl (0, 12, .inl (nF (nCl (fun i => D.2.2.2.2.2.1 (f i)) pw i))))] := by
  intro m
  induction m with
  | zero =>
    intro i hi
    refine zs_iload_n dX13_canThrow_2 rfl ?_
    refine zs_iload_n dX13_canThrow_3 rfl ?_
    refine zs_icmp_ge (tgt := 30) dX13_canThrow_4 (by decide) (fun c_1 => ?_) (fun c_1 => (c_1 (by rw [show i = n by omega]; exact Int32.le_refl _) : False).elim)
    rw [show i = n by omega]
    refine zs_lv [0, 1] rfl ?_
    exact hk
  | succ m ih =>
    intro i hi
    have hm := hfD i (by omega)
    have hD0 := hD.1
    refine zs_iload_n dX13_canThrow_2 rfl ?_
    refine zs_iload_n dX13_canThrow_3 rfl ?_
    refine zs_icmp_ge (tgt := 30) dX13_canThrow_4 (by decide) (fun c_1 => (nI_ge (show i < n by omega) (by omega) c_1 : False).elim) (fun c_1 => ?_)
    refine zs_aload_n dX13_canThrow_7 rfl rfl ?_
    refine zs_get 0 dX13_canThrow_8 zf_RX13_90 rfl (v := .ref (e 56)) rfl ?_
    refine zs_iload_n dX13_canThrow_11 rfl ?_
    refine zs_aload_n dX13_canThrow_12 rfl rfl ?_
    refine zs_aload_n dX13_canThrow_13 rfl rfl ?_
    refine zs_get 0 dX13_canThrow_14 zf_RX13_39 rfl (v := .ref (e 24)) rfl ?_
    refine zs_iload_n dX13_canThrow_17 rfl ?_
    refine zs_iald 2 dX13_canThrow_18 rfl (vp_in_nI (by omega) (by omega)) ?_
    refine zs_as (y := nI (f i)) (by rw [nI_c (n := i) (by omega)]; exact congrArg nI (hft i (by omega))) ?_
    refine zs_iconst (v := nI 2) dX13_canThrow_19 (by decide) ?_
    refine zs_callV (M := mX13_manOf) (As := [.int (nI (f i)), .int (nI 2)]) (st := [.int (nI i), .ref (e 56)]) (Kc := [(mo, .inr (11, fMo e (mg g M.1) w)), ((e 14), .inl (0, 800, .inl nw))]) (Kr := [((e 24), .inl (0, 12, .inl (nF (M.2 24)))), ((e 25), .inl (0, 12, .inl (nF (M.2 25)))), ((e 26), .inl (0, 12, .inl (nF (M.2 26)))), ((e 27), .inl (0, 12, .inl (nF (M.2 27)))), ((e 28), .inl (0, 360, .inl (nF (M.2 28)))), ((e 29), .inl (0, 12, .inl (nF (M.2 29)))), ((e 30), .inl (0, 12, .inl (nF (M.2 30)))), ((e 31), .inl (0, 30, .inl (nF (M.2 31)))), ((e 32), .inl (0, 12, .inl (nF (M.2 32)))), ((e 56), .inl (0, 12, .inl (nF (nCl (fun i => D.2.2.2.2.2.1 (f i)) pw i))))]) [0, 1] [2, 3, 4, 5, 6, 7, 8, 9, 10, 11] 0 dX13_canThrow_20 zl_RX13_294 kX13_manOf rfl rfl rfl rfl rfl (by decide) rfl rfl (show dd - 1 + 1 ≤ dd by omega) (Nat.zero_le _) (Nat.zero_le _) (Nat.le_of_ble_eq_true rfl) (s_mManOf l (dd - 1) mo e (mg g M.1) w nw D (f i) 2 hR hm hD0 (by decide)) (fun r K1 hr => ?_)
    obtain ⟨rfl, rfl⟩ := hr
    refine zs_K (K' := [(mo, .inr (11, fMo e (mg g M.1) w)), ((e 14), .inl (0, 800, .inl nw)), ((e 24), .inl (0, 12, .inl (nF (M.2 24)))), ((e 25), .inl (0, 12, .inl (nF (M.2 25)))), ((e 26), .inl (0, 12, .inl (nF (M.2 26)))), ((e 27), .inl (0, 12, .inl (nF (M.2 27)))), ((e 28), .inl (0, 360, .inl (nF (M.2 28)))), ((e 29), .inl (0, 12, .inl (nF (M.2 29)))), ((e 30), .inl (0, 12, .inl (nF (M.2 30)))), ((e 31), .inl (0, 30, .inl (nF (M.2 31)))), ((e 32), .inl (0, 12, .inl (nF (M.2 32)))), ((e 56), .inl (0, 12, .inl (nF (nCl (fun i => D.2.2.2.2.2.1 (f i)) pw i))))]) [10, 11, 0, 1, 2, 3, 4, 5, 6, 7, 8, 9] rfl (by decide) ?_
    refine zs_as (y := nI (D.2.2.2.2.2.1 (f i))) rfl ?_
    refine zs_iast 11 dX13_canThrow_23 rfl (vp_in_nI (by omega) (by omega)) ?_
    rw [nI_c (n := i) (by omega), nF_u]
    rw [nCl_u (new := fun i => D.2.2.2.2.2.1 (f i)) (old := pw) (k := i) rfl]
    show zS _ _ _ _ _ _ [(mo, .inr (11, fMo e (mg g M.1) w)), ((e 14), .inl (0, 800, .inl nw)), ((e 24), .inl (0, 12, .inl (nF (M.2 24)))), ((e 25), .inl (0, 12, .inl (nF (M.2 25)))), ((e 26), .inl (0, 12, .inl (nF (M.2 26)))), ((e 27), .inl (0, 12, .inl (nF (M.2 27)))), ((e 28), .inl (0, 360, .inl (nF (M.2 28)))), ((e 29), .inl (0, 12, .inl (nF (M.2 29)))), ((e 30), .inl (0, 12, .inl (nF (M.2 30)))), ((e 31), .inl (0, 30, .inl (nF (M.2 31)))), ((e 32), .inl (0, 12, .inl (nF (M.2 32)))), ((e 56), .inl (0, 12, .inl (nF (nCl (fun i => D.2.2.2.2.2.1 (f i)) pw (i + 1)))))]
    refine zs_iinc (v := (nI (i + 1))) (lv' := [(2, .int (nI (i + 1))), (0, .ref mo), (1, .int (nI n))]) dX13_canThrow_24 rfl (nI_add _ 1) (Nat.le_of_ble_eq_true rfl) rfl ?_
    refine zs_goto (tgt := 2) dX13_canThrow_27 (by decide) ?_
    refine zs_lv [1, 2, 0] rfl ?_
    exact ih (i + 1) (by omega)
set_option maxRecDepth 100000 in
theorem lp_mc3 {l : Launch} {dd : Nat} {Po : zPo} {K0 : zK} {h0 : List va_E} {Xo : zK → Prop} {Gc : zG → Prop} (mo : Nat) (e : Nat → Nat) (g : Nat → Int32) (w : Int64) (nw : Nat → Int32) (D : zYd) (M : zRs) (f pw : Nat → Nat) (n : Nat) (hd : 1 ≤ dd) (hR : yR D nw) (hD : yI D) (hn : 1 ≤ n ∧ n ≤ 12) (hft : ∀ p, p < n → M.2 24 p = f p) (hfD : ∀ p, p < n → f p < D.1 0) (m : Nat) (hm60 : m < 60) (hk : zS (l, mX13_canThrow, dd, Po, K0, h0, Xo, Gc) 0 0 118 [(0, .ref mo), (1, .int (nI n)), (2, .int (nI m))] [] [(mo, .inr (11, fMo e (mg g M.1) w)), ((e 14), .inl (0, 800, .inl nw)), ((e 24), .inl (0, 12, .inl (nF (M.2 24)))), ((e 25), .inl (0, 12, .inl (nF (M.2 25)))), ((e 26), .inl (0, 12, .inl (nF (M.2 26)))), ((e 27), .inl (0, 12, .inl (nF (M.2 27)))), ((e 28), .inl (0, 360, .inl (nF (M.2 28)))), ((e 29), .inl (0, 12, .inl (nF (M.2 29)))), ((e 30), .inl (0, 12, .inl (nF (M.2 30)))), ((e 31), .inl (0, 30, .inl (nF (M.2 31)))), ((e 32), .inl (0, 12, .inl (nF (M.2 32)))), ((e 56), .inl (0, 12, .inl (nF (nCl (lSt D.2.2.2.2.2.1 f n (m + 1)) pw n))))]) : ∀ (q j : Nat), j + q = n → zS (l, mX13_canThrow, dd, Po, K0, h0, Xo, Gc) 0 0 67 [(0, .ref mo), (1, .int (nI n)), (2, .int (nI m)), (3, .int (nI (m % n))), (4, .int (nI j))] [] [(mo, .inr (11, fMo e (mg g M.1) w)), ((e 14), .inl (0, 800, .inl nw)), ((e 24), .inl (0, 12, .inl (nF (M.2 24)))), ((e 25), .inl (0, 12, .inl (nF (M.2 25)))), ((e 26), .inl (0, 12, .inl (nF (M.2 26)))), ((e 27), .inl (0, 12, .inl (nF (M.2 27)))), ((e 28), .inl (0, 360, .inl (nF (M.2 28)))), ((e 29), .inl (0, 12, .inl (nF (M.2 29)))), ((e 30), .inl (0, 12, .inl (nF (M.2 30)))), ((e 31), .inl (0, 30, .inl (nF (M.2 31)))), ((e 32), .inl (0, 12, .inl (nF (M.2 32)))), ((e 56), .inl (0, 12, .inl (nF (cQ D.2.2.2.2.2.1 f pw n m j))))] := by
  intro q
  induction q with
  | zero =>
    intro j hi
    refine zs_iload dX13_canThrow_67 rfl ?_
    refine zs_iload_n dX13_canThrow_69 rfl ?_
    refine zs_icmp_ge (tgt := 118) dX13_canThrow_70 (by decide) (fun c_1 => ?_) (fun c_1 => (c_1 (by rw [show j = n by omega]; exact Int32.le_refl _) : False).elim)
    rw [show j = n by omega, cQ_n (by omega)]
    refine zs_lv [0, 1, 2] rfl ?_
    exact hk
  | succ q ih =>
    intro j hi
    refine zs_iload dX13_canThrow_67 rfl ?_
    refine zs_iload_n dX13_canThrow_69 rfl ?_
    refine zs_icmp_ge (tgt := 118) dX13_canThrow_70 (by decide) (fun c_1 => (nI_ge (show j < n by omega) (by omega) c_1 : False).elim) (fun c_1 => ?_)
    have hm := hfD j (by omega)
    have hD0 := hD.1
    have hpw := (hD.2.2.2.2.2.2.2.1 (f j)).2.2
    have hls := lSt_le (pw := D.2.2.2.2.2.1) (f := f) (n := n) m j
    have hml := Nat.mod_lt m (show 0 < n by omega)
    refine zs_iload dX13_canThrow_73 rfl ?_
    refine zs_iload_n dX13_canThrow_75 rfl ?_
    refine zs_icmp_eq (tgt := 112) dX13_canThrow_76 (by decide) (fun c_2 => ?_) (fun c_2 => ?_)
    · have c_2 : j = (m % n) := by have hc := c_2; rw [nI_eq' (by omega) (by omega)] at hc; exact hc
      refine zs_iinc (v := (nI (j + 1))) (lv' := [(4, .int (nI (j + 1))), (0, .ref mo), (1, .int (nI n)), (2, .int (nI m)), (3, .int (nI (m % n)))]) dX13_canThrow_112 rfl (nI_add _ 1) (Nat.le_of_ble_eq_true rfl) rfl ?_
      refine zs_goto (tgt := 67) dX13_canThrow_115 (by decide) ?_
      refine zs_lv [1, 2, 3, 4, 0] rfl ?_
      rw [cQ_s1 (P := D.2.2.2.2.2.1) (f := f) (pw0 := pw) (n := n) (m := m) (j := j) (by omega)]
      exact ih (j + 1) (by omega)
    · have c_2 : ¬ (j = (m % n)) := by have hc := c_2; rw [nI_eq' (by omega) (by omega)] at hc; exact hc
      refine zs_aload_n dX13_canThrow_79 rfl rfl ?_
      refine zs_get 0 dX13_canThrow_80 zf_RX13_90 rfl (v := .ref (e 56)) rfl ?_
      refine zs_iload dX13_canThrow_83 rfl ?_
      refine zs_iald 11 dX13_canThrow_85 rfl (vp_in_nI (by omega) (by omega)) ?_
      refine zs_as (y := nI ((lSt D.2.2.2.2.2.1 f n m) j)) (by rw [nI_c (n := j) (by omega)]; exact congrArg nI (cQ_at (show j < n by omega) (show ¬ j = m % n by omega))) ?_
      refine zs_aload_n dX13_canThrow_86 rfl rfl ?_
      refine zs_aload_n dX13_canThrow_87 rfl rfl ?_
      refine zs_get 0 dX13_canThrow_88 zf_RX13_39 rfl (v := .ref (e 24)) rfl ?_
      refine zs_iload dX13_canThrow_91 rfl ?_
      refine zs_iald 2 dX13_canThrow_93 rfl (vp_in_nI (by omega) (by omega)) ?_
      refine zs_as (y := nI (f j)) (by rw [nI_c (n := j) (by omega)]; exact congrArg nI (hft j (by omega))) ?_
      refine zs_iconst (v := nI 2) dX13_canThrow_94 (by decide) ?_
      refine zs_callV (M := mX13_manOf) (As := [.int (nI (f j)), .int (nI 2)]) (st := [.int (nI ((lSt D.2.2.2.2.2.1 f n m) j))]) (Kc := [(mo, .inr (11, fMo e (mg g M.1) w)), ((e 14), .inl (0, 800, .inl nw))]) (Kr := [((e 24), .inl (0, 12, .inl (nF (M.2 24)))), ((e 25), .inl (0, 12, .inl (nF (M.2 25)))), ((e 26), .inl (0, 12, .inl (nF (M.2 26)))), ((e 27), .inl (0, 12, .inl (nF (M.2 27)))), ((e 28), .inl (0, 360, .inl (nF (M.2 28)))), ((e 29), .inl (0, 12, .inl (nF (M.2 29)))), ((e 30), .inl (0, 12, .inl (nF (M.2 30)))), ((e 31), .inl (0, 30, .inl (nF (M.2 31)))), ((e 32), .inl (0, 12, .inl (nF (M.2 32)))), ((e 56), .inl (0, 12, .inl (nF (cQ D.2.2.2.2.2.1 f pw n m j))))]) [0, 1] [2, 3, 4, 5, 6, 7, 8, 9, 10, 11] 0 dX13_canThrow_95 zl_RX13_294 kX13_manOf rfl rfl rfl rfl rfl (by decide) rfl rfl (show dd - 1 + 1 ≤ dd by omega) (Nat.zero_le _) (Nat.zero_le _) (Nat.le_of_ble_eq_true rfl) (s_mManOf l (dd - 1) mo e (mg g M.1) w nw D (f j) 2 hR hm hD0 (by decide)) (fun r K1 hr => ?_)
      obtain ⟨rfl, rfl⟩ := hr
      refine zs_K (K' := [(mo, .inr (11, fMo e (mg g M.1) w)), ((e 14), .inl (0, 800, .inl nw)), ((e 24), .inl (0, 12, .inl (nF (M.2 24)))), ((e 25), .inl (0, 12, .inl (nF (M.2 25)))), ((e 26), .inl (0, 12, .inl (nF (M.2 26)))), ((e 27), .inl (0, 12, .inl (nF (M.2 27)))), ((e 28), .inl (0, 360, .inl (nF (M.2 28)))), ((e 29), .inl (0, 12, .inl (nF (M.2 29)))), ((e 30), .inl (0, 12, .inl (nF (M.2 30)))), ((e 31), .inl (0, 30, .inl (nF (M.2 31)))), ((e 32), .inl (0, 12, .inl (nF (M.2 32)))), ((e 56), .inl (0, 12, .inl (nF (cQ D.2.2.2.2.2.1 f pw n m j))))]) [10, 11, 0, 1, 2, 3, 4, 5, 6, 7, 8, 9] rfl (by decide) ?_
      refine zs_as (y := nI (D.2.2.2.2.2.1 (f j))) rfl ?_
      refine zs_icmp_ge (tgt := 112) dX13_canThrow_98 (by decide) (fun c_3 => ?_) (fun c_3 => ?_)
      · have c_3 : (D.2.2.2.2.2.1 (f j)) ≤ ((lSt D.2.2.2.2.2.1 f n m) j) := by have hc := c_3; rw [nI_le' (by omega) (by omega)] at hc; exact hc
        refine zs_iinc (v := (nI (j + 1))) (lv' := [(4, .int (nI (j + 1))), (0, .ref mo), (1, .int (nI n)), (2, .int (nI m)), (3, .int (nI (m % n)))]) dX13_canThrow_112 rfl (nI_add _ 1) (Nat.le_of_ble_eq_true rfl) rfl ?_
        refine zs_goto (tgt := 67) dX13_canThrow_115 (by decide) ?_
        refine zs_lv [1, 2, 3, 4, 0] rfl ?_
        rw [cQ_s3 (P := D.2.2.2.2.2.1) (f := f) (pw0 := pw) (n := n) (m := m) (j := j) (by omega) (by omega) (by omega)]
        exact ih (j + 1) (by omega)
      · have c_3 : ¬ ((D.2.2.2.2.2.1 (f j)) ≤ ((lSt D.2.2.2.2.2.1 f n m) j)) := by have hc := c_3; rw [nI_le' (by omega) (by omega)] at hc; exact hc
        refine zs_aload_n dX13_canThrow_101 rfl rfl ?_
        refine zs_get 0 dX13_canThrow_102 zf_RX13_90 rfl (v := .ref (e 56)) rfl ?_
        refine zs_iload dX13_canThrow_105 rfl ?_
        refine zs_dup2 dX13_canThrow_107 rfl rfl ?_
        refine zs_iald 11 dX13_canThrow_108 rfl (vp_in_nI (by omega) (by omega)) ?_
        refine zs_as (y := nI ((lSt D.2.2.2.2.2.1 f n m) j)) (by rw [nI_c (n := j) (by omega)]; exact congrArg nI (cQ_at (show j < n by omega) (show ¬ j = m % n by omega))) ?_
        refine zs_iconst (v := nI 1) dX13_canThrow_109 (by decide) ?_
        refine zs_iadd dX13_canThrow_110 ?_
        refine zs_as (y := nI (((lSt D.2.2.2.2.2.1 f n m) j) + 1)) (nI_add _ _) ?_
        refine zs_iast 11 dX13_canThrow_111 rfl (vp_in_nI (by omega) (by omega)) ?_
        rw [nI_c (n := j) (by omega), nF_u]
        show zS _ _ _ _ _ _ [(mo, .inr (11, fMo e (mg g M.1) w)), ((e 14), .inl (0, 800, .inl nw)), ((e 24), .inl (0, 12, .inl (nF (M.2 24)))), ((e 25), .inl (0, 12, .inl (nF (M.2 25)))), ((e 26), .inl (0, 12, .inl (nF (M.2 26)))), ((e 27), .inl (0, 12, .inl (nF (M.2 27)))), ((e 28), .inl (0, 360, .inl (nF (M.2 28)))), ((e 29), .inl (0, 12, .inl (nF (M.2 29)))), ((e 30), .inl (0, 12, .inl (nF (M.2 30)))), ((e 31), .inl (0, 30, .inl (nF (M.2 31)))), ((e 32), .inl (0, 12, .inl (nF (M.2 32)))), ((e 56), .inl (0, 12, .inl (nF (un (cQ D.2.2.2.2.2.1 f pw n m j) j (((lSt D.2.2.2.2.2.1 f n m) j) + 1)))))]
        refine zs_iinc (v := (nI (j + 1))) (lv' := [(4, .int (nI (j + 1))), (0, .ref mo), (1, .int (nI n)), (2, .int (nI m)), (3, .int (nI (m % n)))]) dX13_canThrow_112 rfl (nI_add _ 1) (Nat.le_of_ble_eq_true rfl) rfl ?_
        refine zs_goto (tgt := 67) dX13_canThrow_115 (by decide) ?_
        refine zs_lv [1, 2, 3, 4, 0] rfl ?_
        rw [cQ_s2 (P := D.2.2.2.2.2.1) (f := f) (pw0 := pw) (n := n) (m := m) (j := j) (by omega) (by omega) (by omega)]
        exact ih (j + 1) (by omega)
set_option maxRecDepth 100000 in
theorem lp_mc2 {l : Launch} {dd : Nat} {Po : zPo} {K0 : zK} {h0 : List va_E} {Xo : zK → Prop} {Gc : zG → Prop} (mo : Nat) (e : Nat → Nat) (g : Nat → Int32) (w : Int64) (nw : Nat → Int32) (D : zYd) (M : zRs) (f pw : Nat → Nat) (n : Nat) (hd : 1 ≤ dd) (hR : yR D nw) (hD : yI D) (hn : 1 ≤ n ∧ n ≤ 12) (hft : ∀ p, p < n → M.2 24 p = f p) (hfD : ∀ p, p < n → f p < D.1 0) (hP : ∀ r K', (r = some (.int (bI (lOk D.2.2.2.2.2.1 f n))) ∧ ∃ pw', K' = kTm mo e g w nw M ++ [((e 56), .inl (0, 12, .inl (nF pw')))]) → Po r K') : ∀ (q m : Nat), m + q = 60 → (∀ j, j < m → 3 ≤ lSt D.2.2.2.2.2.1 f n j (j % n)) → zS (l, mX13_canThrow, dd, Po, K0, h0, Xo, Gc) 0 0 32 [(0, .ref mo), (1, .int (nI n)), (2, .int (nI m))] [] [(mo, .inr (11, fMo e (mg g M.1) w)), ((e 14), .inl (0, 800, .inl nw)), ((e 24), .inl (0, 12, .inl (nF (M.2 24)))), ((e 25), .inl (0, 12, .inl (nF (M.2 25)))), ((e 26), .inl (0, 12, .inl (nF (M.2 26)))), ((e 27), .inl (0, 12, .inl (nF (M.2 27)))), ((e 28), .inl (0, 360, .inl (nF (M.2 28)))), ((e 29), .inl (0, 12, .inl (nF (M.2 29)))), ((e 30), .inl (0, 12, .inl (nF (M.2 30)))), ((e 31), .inl (0, 30, .inl (nF (M.2 31)))), ((e 32), .inl (0, 12, .inl (nF (M.2 32)))), ((e 56), .inl (0, 12, .inl (nF (nCl (lSt D.2.2.2.2.2.1 f n m) pw n))))] := by
  intro q
  induction q with
  | zero =>
    intro m hi hok
    refine zs_iload_n dX13_canThrow_32 rfl ?_
    refine zs_bipush (v := nI 60) dX13_canThrow_33 (by decide) ?_
    refine zs_icmp_ge (tgt := 124) dX13_canThrow_35 (by decide) (fun c_1 => ?_) (fun c_1 => (c_1 (by rw [show m = 60 by omega]; exact Int32.le_refl _) : False).elim)
    refine zs_iconst (v := nI 1) dX13_canThrow_124 (by decide) ?_
    exact zs_zret dX13_canThrow_125 rfl (Or.inr rfl) (hP _ _ ⟨by rw [show lOk D.2.2.2.2.2.1 f n = true from decide_eq_true (fun j hj => hok j (by omega))]; rfl, (nCl (lSt D.2.2.2.2.2.1 f n m) pw n), rfl⟩)
  | succ q ih =>
    intro m hi hok
    refine zs_iload_n dX13_canThrow_32 rfl ?_
    refine zs_bipush (v := nI 60) dX13_canThrow_33 (by decide) ?_
    refine zs_icmp_ge (tgt := 124) dX13_canThrow_35 (by decide) (fun c_1 => (nI_ge (show m < 60 by omega) (by omega) c_1 : False).elim) (fun c_1 => ?_)
    have hml := Nat.mod_lt m (show 0 < n by omega)
    have hm := hfD (m % n) hml
    have hpw := (hD.2.2.2.2.2.2.2.1 (f (m % n))).2.2
    have hls := lSt_le (pw := D.2.2.2.2.2.1) (f := f) (n := n) m (m % n)
    refine zs_iload_n dX13_canThrow_38 rfl ?_
    refine zs_iload_n dX13_canThrow_39 rfl ?_
    refine zs_irem dX13_canThrow_40 (fun hz => by rw [show (0 : Int32) = nI 0 from rfl, nI_eq' (by omega) (by omega)] at hz; omega) ?_
    refine zs_as (y := nI (m % n)) (nI_rem (by omega) (by omega) (by omega)) ?_
    refine zs_istore_n (lv' := [(3, .int (nI (m % n))), (0, .ref mo), (1, .int (nI n)), (2, .int (nI m))]) dX13_canThrow_41 (Nat.le_of_ble_eq_true rfl) rfl ?_
    refine zs_aload_n dX13_canThrow_42 rfl rfl ?_
    refine zs_get 0 dX13_canThrow_43 zf_RX13_90 rfl (v := .ref (e 56)) rfl ?_
    refine zs_iload_n dX13_canThrow_46 rfl ?_
    refine zs_iald 11 dX13_canThrow_47 rfl (vp_in_nI (by omega) (by omega)) ?_
    refine zs_as (y := nI ((lSt D.2.2.2.2.2.1 f n m) (m % n))) (by rw [nI_c (n := m % n) (by omega)]; exact congrArg nI (nCl_s hml)) ?_
    refine zs_iconst (v := nI 3) dX13_canThrow_48 (by decide) ?_
    refine zs_icmp_ge (tgt := 54) dX13_canThrow_49 (by decide) (fun c_2 => ?_) (fun c_2 => ?_)
    · have c_2 : 3 ≤ ((lSt D.2.2.2.2.2.1 f n m) (m % n)) := by have hc := c_2; rw [nI_le' (by omega) (by omega)] at hc; exact hc
      refine zs_aload_n dX13_canThrow_54 rfl rfl ?_
      refine zs_get 0 dX13_canThrow_55 zf_RX13_90 rfl (v := .ref (e 56)) rfl ?_
      refine zs_iload_n dX13_canThrow_58 rfl ?_
      refine zs_dup2 dX13_canThrow_59 rfl rfl ?_
      refine zs_iald 11 dX13_canThrow_60 rfl (vp_in_nI (by omega) (by omega)) ?_
      refine zs_as (y := nI ((lSt D.2.2.2.2.2.1 f n m) (m % n))) (by rw [nI_c (n := m % n) (by omega)]; exact congrArg nI (nCl_s hml)) ?_
      refine zs_iconst (v := nI 3) dX13_canThrow_61 (by decide) ?_
      refine zs_isub dX13_canThrow_62 ?_
      refine zs_as (y := nI (((lSt D.2.2.2.2.2.1 f n m) (m % n)) - 3)) (nI_sub (by omega)) ?_
      refine zs_iast 11 dX13_canThrow_63 rfl (vp_in_nI (by omega) (by omega)) ?_
      rw [nI_c (n := m % n) (by omega), nF_u]
      show zS _ _ _ _ _ _ [(mo, .inr (11, fMo e (mg g M.1) w)), ((e 14), .inl (0, 800, .inl nw)), ((e 24), .inl (0, 12, .inl (nF (M.2 24)))), ((e 25), .inl (0, 12, .inl (nF (M.2 25)))), ((e 26), .inl (0, 12, .inl (nF (M.2 26)))), ((e 27), .inl (0, 12, .inl (nF (M.2 27)))), ((e 28), .inl (0, 360, .inl (nF (M.2 28)))), ((e 29), .inl (0, 12, .inl (nF (M.2 29)))), ((e 30), .inl (0, 12, .inl (nF (M.2 30)))), ((e 31), .inl (0, 30, .inl (nF (M.2 31)))), ((e 32), .inl (0, 12, .inl (nF (M.2 32)))), ((e 56), .inl (0, 12, .inl (nF (un (nCl (lSt D.2.2.2.2.2.1 f n m) pw n) (m % n) (((lSt D.2.2.2.2.2.1 f n m) (m % n)) - 3)))))]
      refine zs_iconst (v := nI 0) dX13_canThrow_64 (by decide) ?_
      refine zs_istore (lv' := [(4, .int (nI 0)), (3, .int (nI (m % n))), (0, .ref mo), (1, .int (nI n)), (2, .int (nI m))]) dX13_canThrow_65 (Nat.le_of_ble_eq_true rfl) rfl ?_
      refine zs_lv [2, 3, 4, 1, 0] rfl ?_
      rw [cQ_0]
      refine lp_mc3 mo e g w nw D M f pw n hd hR hD hn hft hfD m (by omega) ?_ n 0 (Nat.zero_add _)
      refine zs_iinc (v := (nI (m + 1))) (lv' := [(2, .int (nI (m + 1))), (0, .ref mo), (1, .int (nI n))]) dX13_canThrow_118 rfl (nI_add _ 1) (Nat.le_of_ble_eq_true rfl) rfl ?_
      refine zs_goto (tgt := 32) dX13_canThrow_121 (by decide) ?_
      refine zs_lv [1, 2, 0] rfl ?_
      exact ih (m + 1) (by omega) (fun j hj => (Nat.lt_or_eq_of_le (Nat.le_of_lt_succ hj)).elim (hok j) (fun e => e ▸ (by omega)))
    · have c_2 : ¬ (3 ≤ ((lSt D.2.2.2.2.2.1 f n m) (m % n))) := by have hc := c_2; rw [nI_le' (by omega) (by omega)] at hc; exact hc
      refine zs_iconst (v := nI 0) dX13_canThrow_52 (by decide) ?_
      exact zs_zret dX13_canThrow_53 rfl (Or.inl rfl) (hP _ _ ⟨by rw [show lOk D.2.2.2.2.2.1 f n = false from decide_eq_false (fun h => absurd (h m (by omega)) (by omega))]; rfl, (nCl (lSt D.2.2.2.2.2.1 f n m) pw n), rfl⟩)
set_option maxRecDepth 100000 in
theorem s_mCanThrow (l : Launch) (dd : Nat) (mo : Nat) (e : Nat → Nat) (g : Nat → Int32) (w : Int64) (nw : Nat → Int32) (D : zYd) (M : zRs) (f pw : Nat → Nat) (n : Nat) (hd : 1 ≤ dd) (hR : yR D nw) (hD : yI D) (hn : 1 ≤ n ∧ n ≤ 12) (hft : ∀ p, p < n → M.2 24 p = f p) (hfD : ∀ p, p < n → f p < D.1 0) : zSp l mX13_canThrow dd 0 0 [.ref mo, .int (nI n)] [(mo, .inr (11, fMo e (mg g M.1) w)), ((e 14), .inl (0, 800, .inl nw)), ((e 24), .inl (0, 12, .inl (nF (M.2 24)))), ((e 25), .inl (0, 12, .inl (nF (M.2 25)))), ((e 26), .inl (0, 12, .inl (nF (M.2 26)))), ((e 27), .inl (0, 12, .inl (nF (M.2 27)))), ((e 28), .inl (0, 360, .inl (nF (M.2 28)))), ((e 29), .inl (0, 12, .inl (nF (M.2 29)))), ((e 30), .inl (0, 12, .inl (nF (M.2 30)))), ((e 31), .inl (0, 30, .inl (nF (M.2 31)))), ((e 32), .inl (0, 12, .inl (nF (M.2 32)))), ((e 56), .inl (0, 12, .inl (nF pw)))] (fun r K' => r = some (.int (bI (lOk D.2.2.2.2.2.1 f n))) ∧ ∃ pw', K' = kTm mo e g w nw M ++ [((e 56), .inl (0, 12, .inl (nF pw')))]) := by
  refine zSp.of (by decide) (Nat.le_of_ble_eq_true rfl) (fun h0 => ?_)
  show zS _ 0 0 0 [(0, .ref mo), (1, .int (nI n))] [] [(mo, .inr (11, fMo e (mg g M.1) w)), ((e 14), .inl (0, 800, .inl nw)), ((e 24), .inl (0, 12, .inl (nF (M.2 24)))), ((e 25), .inl (0, 12, .inl (nF (M.2 25)))), ((e 26), .inl (0, 12, .inl (nF (M.2 26)))), ((e 27), .inl (0, 12, .inl (nF (M.2 27)))), ((e 28), .inl (0, 360, .inl (nF (M.2 28)))), ((e 29), .inl (0, 12, .inl (nF (M.2 29)))), ((e 30), .inl (0, 12, .inl (nF (M.2 30)))), ((e 31), .inl (0, 30, .inl (nF (M.2 31)))), ((e 32), .inl (0, 12, .inl (nF (M.2 32)))), ((e 56), .inl (0, 12, .inl (nF pw)))]
  refine zs_iconst (v := nI 0) dX13_canThrow_0 (by decide) ?_
  refine zs_istore_n (lv' := [(2, .int (nI 0)), (0, .ref mo), (1, .int (nI n))]) dX13_canThrow_1 (Nat.le_of_ble_eq_true rfl) rfl ?_
  refine zs_lv [1, 2, 0] rfl ?_
  refine zs_eq (K' := [(mo, .inr (11, fMo e (mg g M.1) w)), ((e 14), .inl (0, 800, .inl nw)), ((e 24), .inl (0, 12, .inl (nF (M.2 24)))), ((e 25), .inl (0, 12, .inl (nF (M.2 25)))), ((e 26), .inl (0, 12, .inl (nF (M.2 26)))), ((e 27), .inl (0, 12, .inl (nF (M.2 27)))), ((e 28), .inl (0, 360, .inl (nF (M.2 28)))), ((e 29), .inl (0, 12, .inl (nF (M.2 29)))), ((e 30), .inl (0, 12, .inl (nF (M.2 30)))), ((e 31), .inl (0, 30, .inl (nF (M.2 31)))), ((e 32), .inl (0, 12, .inl (nF (M.2 32)))), ((e 56), .inl (0, 12, .inl (nF (nCl (fun i => D.2.2.2.2.2.1 (f i)) pw 0))))]) (by rw [nCl_0]) ?_
  refine lp_mc1 mo e g w nw D M f pw n hd hR hD hn hft hfD ?_ n 0 (Nat.zero_add _)
  refine zs_iconst (v := nI 0) dX13_canThrow_30 (by decide) ?_
  refine zs_istore_n (lv' := [(2, .int (nI 0)), (0, .ref mo), (1, .int (nI n))]) dX13_canThrow_31 (Nat.le_of_ble_eq_true rfl) rfl ?_
  refine zs_lv [1, 2, 0] rfl ?_
  exact lp_mc2 mo e g w nw D M f pw n hd hR hD hn hft hfD (fun r K1 h => h) 60 0 rfl (fun j hj => absurd hj (Nat.not_lt_zero j))
set_option maxRecDepth 100000 in
theorem lp_mrl {l : Launch} {dd : Nat} {Po : zPo} {K0 : zK} {h0 : List va_E} {Xo : zK → Prop} {Gc : zG → Prop} (mo : Nat) (e : Nat → Nat) (w : Int64) (nw : Nat → Int32) (D : zYd) (bt : Nat → Nat) (g1 : Nat → Int32) (M1 : zRs) (f : Nat → Nat) (n : Nat) (hd : 2 ≤ dd) (hR : yR D nw) (hD : yI D) (hn : 1 ≤ n ∧ n ≤ 12) (h33 : M1.1 33 = n) (hft : ∀ p, p < n → M1.2 24 p = f p) (hfD : ∀ p, p < n → f p < D.1 0) (W : Option Nat) (hP : ∀ r K', (r = some (.int (oI W)) ∧ ∃ pw', K' = [(mo, .inr (11, fMo e (mg g1 M1.1) w)), ((e 14), .inl (0, 800, .inl nw)), ((e 24), .inl (0, 12, .inl (nF (M1.2 24)))), ((e 25), .inl (0, 12, .inl (nF (M1.2 25)))), ((e 26), .inl (0, 12, .inl (nF (M1.2 26)))), ((e 27), .inl (0, 12, .inl (nF (M1.2 27)))), ((e 28), .inl (0, 360, .inl (nF (M1.2 28)))), ((e 29), .inl (0, 12, .inl (nF (M1.2 29)))), ((e 30), .inl (0, 12, .inl (nF (M1.2 30)))), ((e 31), .inl (0, 30, .inl (nF (M1.2 31)))), ((e 32), .inl (0, 12, .inl (nF (M1.2 32)))), ((e 1), .inl (0, 740, .inl (nF bt))), ((e 56), .inl (0, 12, .inl (nF pw')))]) → Po r K') : ∀ (q k : Nat) (pw : Nat → Nat), k + q = n + 1 → 1 ≤ k → pRl D.2.2.2.2.2.1 f q k = W → zS (l, mX13_relief, dd, Po, K0, h0, Xo, Gc) 0 0 21 [(0, .ref mo), (1, .int (nI k))] [] [(mo, .inr (11, fMo e (mg g1 M1.1) w)), ((e 14), .inl (0, 800, .inl nw)), ((e 24), .inl (0, 12, .inl (nF (M1.2 24)))), ((e 25), .inl (0, 12, .inl (nF (M1.2 25)))), ((e 26), .inl (0, 12, .inl (nF (M1.2 26)))), ((e 27), .inl (0, 12, .inl (nF (M1.2 27)))), ((e 28), .inl (0, 360, .inl (nF (M1.2 28)))), ((e 29), .inl (0, 12, .inl (nF (M1.2 29)))), ((e 30), .inl (0, 12, .inl (nF (M1.2 30)))), ((e 31), .inl (0, 30, .inl (nF (M1.2 31)))), ((e 32), .inl (0, 12, .inl (nF (M1.2 32)))), ((e 1), .inl (0, 740, .inl (nF bt))), ((e 56), .inl (0, 12, .inl (nF pw)))] := by
  intro q
  induction q with
  | zero =>
    intro k pw hi hk1 hW
    refine zs_iload_n dX13_relief_21 rfl ?_
    refine zs_aload_n dX13_relief_22 rfl rfl ?_
    refine zs_get 0 dX13_relief_23 zf_RX13_304 rfl (v := .int (nI (M1.1 33))) rfl ?_
    refine zs_icmp_gt (tgt := 45) dX13_relief_26 (by decide) (fun c_1 => ?_) (fun c_1 => (c_1 (by rw [nI_lt' (by omega) (by omega)]; omega) : False).elim)
    refine zs_iconst (v := (-1)) dX13_relief_45 (by decide) ?_
    exact zs_iret dX13_relief_46 rfl (hP _ _ ⟨by rw [← hW]; rfl, pw, rfl⟩)
  | succ q ih =>
    intro k pw hi hk1 hW
    refine zs_iload_n dX13_relief_21 rfl ?_
    refine zs_aload_n dX13_relief_22 rfl rfl ?_
    refine zs_get 0 dX13_relief_23 zf_RX13_304 rfl (v := .int (nI (M1.1 33))) rfl ?_
    refine zs_icmp_gt (tgt := 45) dX13_relief_26 (by decide) (fun c_1 => (absurd c_1 (by rw [nI_lt' (by omega) (by omega)]; omega) : False).elim) (fun c_1 => ?_)
    refine zs_aload_n dX13_relief_29 rfl rfl ?_
    refine zs_iload_n dX13_relief_30 rfl ?_
    refine zs_callV (M := mX13_canThrow) (As := [.int (nI k)]) (st := []) (Kc := [(mo, .inr (11, fMo e (mg g1 M1.1) w)), ((e 14), .inl (0, 800, .inl nw)), ((e 24), .inl (0, 12, .inl (nF (M1.2 24)))), ((e 25), .inl (0, 12, .inl (nF (M1.2 25)))), ((e 26), .inl (0, 12, .inl (nF (M1.2 26)))), ((e 27), .inl (0, 12, .inl (nF (M1.2 27)))), ((e 28), .inl (0, 360, .inl (nF (M1.2 28)))), ((e 29), .inl (0, 12, .inl (nF (M1.2 29)))), ((e 30), .inl (0, 12, .inl (nF (M1.2 30)))), ((e 31), .inl (0, 30, .inl (nF (M1.2 31)))), ((e 32), .inl (0, 12, .inl (nF (M1.2 32)))), ((e 56), .inl (0, 12, .inl (nF pw)))]) (Kr := [((e 1), .inl (0, 740, .inl (nF bt)))]) [0, 1, 2, 3, 4, 5, 6, 7, 8, 9, 10, 12] [11] 0 dX13_relief_31 zl_RX13_408 kX13_canThrow rfl rfl rfl rfl rfl (by decide) rfl rfl (show dd - 1 + 1 ≤ dd by omega) (Nat.zero_le _) (Nat.zero_le _) (Nat.le_of_ble_eq_true rfl) (s_mCanThrow l (dd - 1) mo e g1 w nw D M1 f pw k (by omega) hR hD (by omega) (fun p hp => hft p (by omega)) (fun p hp => hfD p (by omega))) (fun r K1 hr => ?_)
    obtain ⟨rfl, pw', rfl⟩ := hr
    refine zs_K (K' := [(mo, .inr (11, fMo e (mg g1 M1.1) w)), ((e 14), .inl (0, 800, .inl nw)), ((e 24), .inl (0, 12, .inl (nF (M1.2 24)))), ((e 25), .inl (0, 12, .inl (nF (M1.2 25)))), ((e 26), .inl (0, 12, .inl (nF (M1.2 26)))), ((e 27), .inl (0, 12, .inl (nF (M1.2 27)))), ((e 28), .inl (0, 360, .inl (nF (M1.2 28)))), ((e 29), .inl (0, 12, .inl (nF (M1.2 29)))), ((e 30), .inl (0, 12, .inl (nF (M1.2 30)))), ((e 31), .inl (0, 30, .inl (nF (M1.2 31)))), ((e 32), .inl (0, 12, .inl (nF (M1.2 32)))), ((e 1), .inl (0, 740, .inl (nF bt))), ((e 56), .inl (0, 12, .inl (nF pw')))]) [1, 2, 3, 4, 5, 6, 7, 8, 9, 10, 11, 0, 12] rfl (by decide) ?_
    refine zs_if_eq (tgt := 39) dX13_relief_34 (by decide) (fun c_2 => ?_) (fun c_2 => ?_)
    · have hno := bI_f c_2
      refine zs_iinc (v := (nI (k + 1))) (lv' := [(1, .int (nI (k + 1))), (0, .ref mo)]) dX13_relief_39 rfl (nI_add _ 1) (Nat.le_of_ble_eq_true rfl) rfl ?_
      refine zs_goto (tgt := 21) dX13_relief_42 (by decide) ?_
      refine zs_lv [1, 0] rfl ?_
      exact ih (k + 1) pw' (by omega) (by omega) (by rw [← hW, pRl, if_neg (by rw [hno]; decide)])
    · have hyes := bI_t c_2
      refine zs_iload_n dX13_relief_37 rfl ?_
      exact zs_iret dX13_relief_38 rfl (hP _ _ ⟨by rw [← hW, pRl, if_pos hyes]; rfl, pw', rfl⟩)
set_option maxRecDepth 100000 in
theorem s_mRelief (l : Launch) (dd : Nat) (mo : Nat) (e : Nat → Nat) (g : Nat → Int32) (w : Int64) (nw : Nat → Int32) (D : zYd) (M : zRs) (bt : Nat → Nat) (n : Nat) (f pw : Nat → Nat) (hd : 5 ≤ dd) (hR : yR D (mLay g nw)) (hD : yI D) (hb : g 22 = 0 ∨ g 22 = 1) (h2 : g 2 = nI n) (hn : n ≤ 740) (hbt : ∀ j, bt j < 256) (hf : ∀ p, p < n → f p = bt p) : zSp l mX13_relief dd 0 0 [.ref mo] [(mo, .inr (11, fMo e (mg g M.1) w)), ((e 14), .inl (0, 800, .inl nw)), ((e 24), .inl (0, 12, .inl (nF (M.2 24)))), ((e 25), .inl (0, 12, .inl (nF (M.2 25)))), ((e 26), .inl (0, 12, .inl (nF (M.2 26)))), ((e 27), .inl (0, 12, .inl (nF (M.2 27)))), ((e 28), .inl (0, 360, .inl (nF (M.2 28)))), ((e 29), .inl (0, 12, .inl (nF (M.2 29)))), ((e 30), .inl (0, 12, .inl (nF (M.2 30)))), ((e 31), .inl (0, 30, .inl (nF (M.2 31)))), ((e 32), .inl (0, 12, .inl (nF (M.2 32)))), ((e 1), .inl (0, 740, .inl (nF bt))), ((e 56), .inl (0, 12, .inl (nF pw)))] (fun r K' => (pMn bt n (D.1 0) 1 12 = 0 ∧ r = some (.int (-2)) ∧ ∃ (g' : Nat → Int32) (M' : zRs) (pw' : Nat → Nat), mFr [0, 2, 22, 33, 34, 35, 36, 37, 38, 39, 40, 41, 42] g g' ∧ g' 0 = nI 0 ∧ g' 2 = nI 0 ∧ g' 22 = 1 ∧ K' = [(mo, .inr (11, fMo e (mg g' M'.1) w)), ((e 14), .inl (0, 800, .inl (mLay g nw))), ((e 24), .inl (0, 12, .inl (nF (M'.2 24)))), ((e 25), .inl (0, 12, .inl (nF (M'.2 25)))), ((e 26), .inl (0, 12, .inl (nF (M'.2 26)))), ((e 27), .inl (0, 12, .inl (nF (M'.2 27)))), ((e 28), .inl (0, 360, .inl (nF (M'.2 28)))), ((e 29), .inl (0, 12, .inl (nF (M'.2 29)))), ((e 30), .inl (0, 12, .inl (nF (M'.2 30)))), ((e 31), .inl (0, 30, .inl (nF (M'.2 31)))), ((e 32), .inl (0, 12, .inl (nF (M'.2 32)))), ((e 1), .inl (0, 740, .inl (nF bt))), ((e 56), .inl (0, 12, .inl (nF pw')))]) ∨ (¬ pMn bt n (D.1 0) 1 12 = 0 ∧ r = some (.int (oI (pRl D.2.2.2.2.2.1 f n 1))) ∧ ∃ (g' : Nat → Int32) (M' : zRs) (pw' : Nat → Nat), mFr [0, 2, 22, 33, 34, 35, 36, 37, 38, 39, 40, 41, 42] g g' ∧ g' 0 = nI 0 ∧ g' 2 = nI 0 ∧ g' 22 = 1 ∧ K' = [(mo, .inr (11, fMo e (mg g' M'.1) w)), ((e 14), .inl (0, 800, .inl (mLay g nw))), ((e 24), .inl (0, 12, .inl (nF (M'.2 24)))), ((e 25), .inl (0, 12, .inl (nF (M'.2 25)))), ((e 26), .inl (0, 12, .inl (nF (M'.2 26)))), ((e 27), .inl (0, 12, .inl (nF (M'.2 27)))), ((e 28), .inl (0, 360, .inl (nF (M'.2 28)))), ((e 29), .inl (0, 12, .inl (nF (M'.2 29)))), ((e 30), .inl (0, 12, .inl (nF (M'.2 30)))), ((e 31), .inl (0, 30, .inl (nF (M'.2 31)))), ((e 32), .inl (0, 12, .inl (nF (M'.2 32)))), ((e 1), .inl (0, 740, .inl (nF bt))), ((e 56), .inl (0, 12, .inl (nF pw')))])) := by
  refine zSp.of (by decide) (Nat.le_of_ble_eq_true rfl) (fun h0 => ?_)
  show zS _ 0 0 0 [(0, .ref mo)] [] [(mo, .inr (11, fMo e (mg g M.1) w)), ((e 14), .inl (0, 800, .inl nw)), ((e 24), .inl (0, 12, .inl (nF (M.2 24)))), ((e 25), .inl (0, 12, .inl (nF (M.2 25)))), ((e 26), .inl (0, 12, .inl (nF (M.2 26)))), ((e 27), .inl (0, 12, .inl (nF (M.2 27)))), ((e 28), .inl (0, 360, .inl (nF (M.2 28)))), ((e 29), .inl (0, 12, .inl (nF (M.2 29)))), ((e 30), .inl (0, 12, .inl (nF (M.2 30)))), ((e 31), .inl (0, 30, .inl (nF (M.2 31)))), ((e 32), .inl (0, 12, .inl (nF (M.2 32)))), ((e 1), .inl (0, 740, .inl (nF bt))), ((e 56), .inl (0, 12, .inl (nF pw)))]
  refine zs_aload_n dX13_relief_0 rfl rfl ?_
  refine zs_iconst (v := nI 0) dX13_relief_1 (by decide) ?_
  refine zs_put 0 dX13_relief_2 zf_RX13_148 rfl (Nat.le_of_ble_eq_true rfl) (zPv_i _) ?_
  show zS _ _ _ _ _ _ [(mo, .inr (11, fMo e (mg (upd g 0 (nI 0)) M.1) w)), ((e 14), .inl (0, 800, .inl nw)), ((e 24), .inl (0, 12, .inl (nF (M.2 24)))), ((e 25), .inl (0, 12, .inl (nF (M.2 25)))), ((e 26), .inl (0, 12, .inl (nF (M.2 26)))), ((e 27), .inl (0, 12, .inl (nF (M.2 27)))), ((e 28), .inl (0, 360, .inl (nF (M.2 28)))), ((e 29), .inl (0, 12, .inl (nF (M.2 29)))), ((e 30), .inl (0, 12, .inl (nF (M.2 30)))), ((e 31), .inl (0, 30, .inl (nF (M.2 31)))), ((e 32), .inl (0, 12, .inl (nF (M.2 32)))), ((e 1), .inl (0, 740, .inl (nF bt))), ((e 56), .inl (0, 12, .inl (nF pw)))]
  refine zs_aload_n dX13_relief_5 rfl rfl ?_
  refine zs_iconst (v := nI 1) dX13_relief_6 (by decide) ?_
  refine zs_bipush (v := nI 12) dX13_relief_7 (by decide) ?_
  refine zs_iconst (v := nI 1) dX13_relief_9 (by decide) ?_
  refine zs_callV (M := mX13_takesTeam) (As := [.int (nI 1), .int (nI 12), .int (nI 1)]) (st := []) (Kc := [(mo, .inr (11, fMo e (mg (upd g 0 (nI 0)) M.1) w)), ((e 14), .inl (0, 800, .inl nw)), ((e 24), .inl (0, 12, .inl (nF (M.2 24)))), ((e 25), .inl (0, 12, .inl (nF (M.2 25)))), ((e 26), .inl (0, 12, .inl (nF (M.2 26)))), ((e 27), .inl (0, 12, .inl (nF (M.2 27)))), ((e 28), .inl (0, 360, .inl (nF (M.2 28)))), ((e 29), .inl (0, 12, .inl (nF (M.2 29)))), ((e 30), .inl (0, 12, .inl (nF (M.2 30)))), ((e 31), .inl (0, 30, .inl (nF (M.2 31)))), ((e 32), .inl (0, 12, .inl (nF (M.2 32)))), ((e 1), .inl (0, 740, .inl (nF bt)))]) (Kr := [((e 56), .inl (0, 12, .inl (nF pw)))]) [0, 1, 2, 3, 4, 5, 6, 7, 8, 9, 10, 11] [12] 0 dX13_relief_10 zl_RX13_372 kX13_takesTeam rfl rfl rfl rfl rfl (by decide) rfl rfl (show dd - 1 + 1 ≤ dd by omega) (Nat.zero_le _) (Nat.zero_le _) (Nat.le_of_ble_eq_true rfl) (s_tTeam l (dd - 1) mo e (upd g 0 (nI 0)) w nw D M bt n 1 12 (by omega) hR hD hb h2 hn hbt (by decide) (by decide)) (fun r K1 hr => ?_)
  rcases hr with ⟨htd, rfl, g1, M1, hfr1, h2_1, h22_1, h33, hteam, rfl⟩ | ⟨htd, rfl, g1, M1, hfr1, h2_1, h22_1, rfl⟩
  · refine zs_K (K' := [(mo, .inr (11, fMo e (mg g1 M1.1) w)), ((e 14), .inl (0, 800, .inl (mLay g nw))), ((e 24), .inl (0, 12, .inl (nF (M1.2 24)))), ((e 25), .inl (0, 12, .inl (nF (M1.2 25)))), ((e 26), .inl (0, 12, .inl (nF (M1.2 26)))), ((e 27), .inl (0, 12, .inl (nF (M1.2 27)))), ((e 28), .inl (0, 360, .inl (nF (M1.2 28)))), ((e 29), .inl (0, 12, .inl (nF (M1.2 29)))), ((e 30), .inl (0, 12, .inl (nF (M1.2 30)))), ((e 31), .inl (0, 30, .inl (nF (M1.2 31)))), ((e 32), .inl (0, 12, .inl (nF (M1.2 32)))), ((e 1), .inl (0, 740, .inl (nF bt))), ((e 56), .inl (0, 12, .inl (nF pw)))]) [1, 2, 3, 4, 5, 6, 7, 8, 9, 10, 11, 12, 0] rfl (by decide) ?_
    have hmn : pMn bt n (D.1 0) 1 12 = n := if_pos htd
    have htp : pTdP bt n (D.1 0) 1 12 := of_decide_eq_true htd
    have hn12 : n ≤ 12 := Nat.le_trans htp.2.1 (by decide)
    have hnlo : 1 ≤ n := htp.1
    refine zs_if_ne (tgt := 19) dX13_relief_13 (by decide) (fun c_1 => ?_) (fun c_1 => (by first | exact absurd c_1 (by decide) | exact absurd (by decide) c_1 : False).elim)
    refine zs_iconst (v := nI 1) dX13_relief_19 (by decide) ?_
    refine zs_istore_n (lv' := [(1, .int (nI 1)), (0, .ref mo)]) dX13_relief_20 (Nat.le_of_ble_eq_true rfl) rfl ?_
    refine zs_lv [1, 0] rfl ?_
    refine lp_mrl mo e w (mLay g nw) D bt g1 M1 f n (by omega) hR hD ⟨hnlo, hn12⟩ h33 (fun p hp => (hteam p hp).trans (hf p hp).symm) (fun p hp => by rw [hf p hp]; exact htp.2.2.1 p hp) (pRl D.2.2.2.2.2.1 f n 1) (fun r K1 h => ?_) n 1 pw (by omega) (Nat.le_refl _) rfl
    obtain ⟨h5, pw2, h6⟩ := h
    exact Or.inr ⟨by rw [hmn]; omega, h5, g1, M1, pw2, (mFr_t (mFr_u mFr_r (by decide) : mFr [0] g (upd g 0 (nI 0))) hfr1 (U := [0, 2, 22, 33, 34, 35, 36, 37, 38, 39, 40, 41, 42]) (by decide) (by decide)), hfr1 0 (by decide), h2_1, h22_1, h6⟩
  · refine zs_K (K' := [(mo, .inr (11, fMo e (mg g1 M1.1) w)), ((e 14), .inl (0, 800, .inl (mLay g nw))), ((e 24), .inl (0, 12, .inl (nF (M1.2 24)))), ((e 25), .inl (0, 12, .inl (nF (M1.2 25)))), ((e 26), .inl (0, 12, .inl (nF (M1.2 26)))), ((e 27), .inl (0, 12, .inl (nF (M1.2 27)))), ((e 28), .inl (0, 360, .inl (nF (M1.2 28)))), ((e 29), .inl (0, 12, .inl (nF (M1.2 29)))), ((e 30), .inl (0, 12, .inl (nF (M1.2 30)))), ((e 31), .inl (0, 30, .inl (nF (M1.2 31)))), ((e 32), .inl (0, 12, .inl (nF (M1.2 32)))), ((e 1), .inl (0, 740, .inl (nF bt))), ((e 56), .inl (0, 12, .inl (nF pw)))]) [1, 2, 3, 4, 5, 6, 7, 8, 9, 10, 11, 12, 0] rfl (by decide) ?_
    refine zs_if_ne (tgt := 19) dX13_relief_13 (by decide) (fun c_2 => (by first | exact absurd c_2 (by decide) | exact absurd (by decide) c_2 : False).elim) (fun c_2 => ?_)
    refine zs_bipush (v := (-2)) dX13_relief_16 (by decide) ?_
    exact zs_iret dX13_relief_18 rfl (Or.inl ⟨(pMn_0 (by decide)).mpr htd, rfl, g1, M1, pw, (mFr_t (mFr_u mFr_r (by decide) : mFr [0] g (upd g 0 (nI 0))) hfr1 (U := [0, 2, 22, 33, 34, 35, 36, 37, 38, 39, 40, 41, 42]) (by decide) (by decide)), hfr1 0 (by decide), h2_1, h22_1, rfl⟩)
