/-! ===== the class itself: hooks ===== -/
def nDs (a b : Nat) : Nat := (a - b) + (b - a)
theorem nI_ds {a b : Nat} (ha : a < 1000000) (hb : b < 1000000) : (if 0 ≤ (nI a - nI b) then (nI a - nI b) else 0 - (nI a - nI b)) = nI (nDs a b) := by
  unfold nDs
  by_cases h : b ≤ a
  · rw [nI_sub h, if_pos (by rw [show (0 : Int32) = nI 0 from rfl, nI_le' (by omega) (by omega)]; omega), show a - b + (b - a) = a - b by omega]
  · have e : nI a - nI b = -(nI (b - a)) := by
      rw [← nI_sub (show a ≤ b by omega), Int32.neg_sub]
    rw [e, if_neg (by
      rw [← Int32.not_lt, Decidable.not_not, zi_lt, Int32.toInt_neg, nI_t (by omega), show ((0 : Int32)).toInt = 0 from rfl, Int.bmod_def]
      omega), Int32.zero_sub, Int32.neg_neg, show a - b + (b - a) = b - a by omega]
theorem nI_mnx {x y : Nat} (hx : x < 2147483648) (hy : y < 2147483648) : (if nI y < nI x then nI y else nI x) = nI (min x y) := by
  by_cases h : y < x
  · rw [if_pos (by rw [nI_lt' (by omega) (by omega)]; exact h), Nat.min_eq_right (by omega)]
  · rw [if_neg (by rw [nI_lt' (by omega) (by omega)]; exact h), Nat.min_eq_left (by omega)]
/-- from a house to the nearest of the first i hooks -/
def pNe (H at_ : Nat → Nat) (h : Nat) : Nat → Nat
  | 0 => 2147483647
  | i + 1 => min (pNe H at_ h i) (nDs (H h) (H (at_ i)))
theorem pNe_le {H at_ : Nat → Nat} {h : Nat} : ∀ i, pNe H at_ h i ≤ 2147483647
  | 0 => Nat.le_refl _
  | i + 1 => Nat.le_trans (Nat.min_le_left _ _) (pNe_le i)
/-- the longest way of the first h houses -/
def pGw (H at_ : Nat → Nat) (k : Nat) : Nat → Nat
  | 0 => 0
  | h + 1 => max (pGw H at_ k h) (pNe H at_ h k)
theorem pGw_le {H at_ : Nat → Nat} {k : Nat} : ∀ h, pGw H at_ k h ≤ 2147483647
  | 0 => Nat.zero_le _
  | h + 1 => Nat.max_le.mpr ⟨pGw_le h, pNe_le k⟩
/-- the last of the first j places that can still rise -/
def nLs (at_ : Nat → Nat) (n k : Nat) : Nat → Option Nat
  | 0 => none
  | j + 1 => if n - k + j ≤ at_ j then nLs at_ n k j else some j
theorem nLs_p {at_ : Nat → Nat} {n k : Nat} : ∀ j p, nLs at_ n k j = some p → p < j ∧ at_ p < n - k + p
  | 0, p, h => nomatch h
  | j + 1, p, h => by
    rw [nLs] at h
    split at h
    · have := nLs_p j p h
      exact ⟨by omega, this.2⟩
    · cases h
      exact ⟨by omega, by omega⟩
def nAt2 (at_ : Nat → Nat) (k j : Nat) : Nat → Nat := fun i => if i < j then at_ i else if i < k then at_ j + 1 + (i - j) else at_ i
def nNx (at_ : Nat → Nat) (n k : Nat) : Bool × (Nat → Nat) := match nLs at_ n k k with
  | none => (false, at_)
  | some j => (true, nAt2 at_ k j)
theorem nNx_n {at_ : Nat → Nat} {n k : Nat} (h : nLs at_ n k k = none) : nNx at_ n k = (false, at_) := by
  unfold nNx
  rw [h]
theorem nNx_s {at_ : Nat → Nat} {n k j : Nat} (h : nLs at_ n k k = some j) : nNx at_ n k = (true, nAt2 at_ k j) := by
  unfold nNx
  rw [h]
/-- rising choices of k out of n -/
def nCh (at_ : Nat → Nat) (n k : Nat) : Prop := ∀ i, i < k → at_ i ≤ n - k + i
theorem nNx_ch {at_ : Nat → Nat} {n k : Nat} (h : nCh at_ n k) : nCh (nNx at_ n k).2 n k := by
  cases hl : nLs at_ n k k with
  | none =>
    rw [nNx_n hl]
    exact h
  | some j =>
    rw [nNx_s hl]
    have hp := nLs_p _ _ hl
    intro i hi
    show (if i < j then at_ i else if i < k then at_ j + 1 + (i - j) else at_ i) ≤ n - k + i
    by_cases h1 : i < j
    · rw [if_pos h1]
      exact h i hi
    · rw [if_neg h1, if_pos hi]
      omega
/-- q choices at most: the choice, the best choice's houses, its way, whether another comes -/
def hLp (H : Nat → Nat) (n k : Nat) : Nat → (Nat → Nat) → (Nat → Nat) → Nat → Bool → (Nat → Nat) × Nat
  | 0, _, fi, le, _ => (fi, le)
  | q + 1, at_, fi, le, an => if an = false then (fi, le) else
    hLp H n k q (nNx at_ n k).2 (if pGw H at_ k n < le then nCl (fun i => H (at_ i)) fi k else fi) (if pGw H at_ k n < le then pGw H at_ k n else le) (nNx at_ n k).1
abbrev hTdP (b : Nat → Nat) (n : Nat) : Prop := ∀ i, i < n → b i ≤ 99 ∧ (0 < i → b (i - 1) < b i)
def hTd (b : Nat → Nat) (n : Nat) : Bool := decide (hTdP b n)
theorem hTd_n {b : Nat → Nat} {n : Nat} (h : ¬ hTdP b n) : hTd b n = false := decide_eq_false h
theorem hTd_y {b : Nat → Nat} {n : Nat} (h : hTdP b n) : hTd b n = true := decide_eq_true h
theorem dX12_housesTold_0 : decode cX12_housesTold 0 = .ok (.iconst 0, 1) := by decide +kernel
theorem dX12_housesTold_1 : decode cX12_housesTold 1 = .ok (.istore_n 1, 1) := by decide +kernel
theorem dX12_housesTold_2 : decode cX12_housesTold 2 = .ok (.iload_n 1, 1) := by decide +kernel
theorem dX12_housesTold_3 : decode cX12_housesTold 3 = .ok (.aload_n 0, 1) := by decide +kernel
theorem dX12_housesTold_4 : decode cX12_housesTold 4 = .ok (.getfield 88, 3) := by decide +kernel
theorem dX12_housesTold_7 : decode cX12_housesTold 7 = .ok (.if_icmp .ge 43, 3) := by decide +kernel
theorem dX12_housesTold_10 : decode cX12_housesTold 10 = .ok (.aload_n 0, 1) := by decide +kernel
theorem dX12_housesTold_11 : decode cX12_housesTold 11 = .ok (.getfield 9, 3) := by decide +kernel
theorem dX12_housesTold_14 : decode cX12_housesTold 14 = .ok (.iload_n 1, 1) := by decide +kernel
theorem dX12_housesTold_15 : decode cX12_housesTold 15 = .ok (.iaload, 1) := by decide +kernel
theorem dX12_housesTold_16 : decode cX12_housesTold 16 = .ok (.bipush 99, 2) := by decide +kernel
theorem dX12_housesTold_18 : decode cX12_housesTold 18 = .ok (.if_icmp .gt 24, 3) := by decide +kernel
theorem dX12_housesTold_21 : decode cX12_housesTold 21 = .ok (.iload_n 1, 1) := by decide +kernel
theorem dX12_housesTold_22 : decode cX12_housesTold 22 = .ok (.ifCond .le 22, 3) := by decide +kernel
theorem dX12_housesTold_25 : decode cX12_housesTold 25 = .ok (.aload_n 0, 1) := by decide +kernel
theorem dX12_housesTold_26 : decode cX12_housesTold 26 = .ok (.getfield 9, 3) := by decide +kernel
theorem dX12_housesTold_29 : decode cX12_housesTold 29 = .ok (.iload_n 1, 1) := by decide +kernel
theorem dX12_housesTold_30 : decode cX12_housesTold 30 = .ok (.iaload, 1) := by decide +kernel
theorem dX12_housesTold_31 : decode cX12_housesTold 31 = .ok (.aload_n 0, 1) := by decide +kernel
theorem dX12_housesTold_32 : decode cX12_housesTold 32 = .ok (.getfield 9, 3) := by decide +kernel
theorem dX12_housesTold_35 : decode cX12_housesTold 35 = .ok (.iload_n 1, 1) := by decide +kernel
theorem dX12_housesTold_36 : decode cX12_housesTold 36 = .ok (.iconst 1, 1) := by decide +kernel
theorem dX12_housesTold_37 : decode cX12_housesTold 37 = .ok (.isub, 1) := by decide +kernel
theorem dX12_housesTold_38 : decode cX12_housesTold 38 = .ok (.iaload, 1) := by decide +kernel
theorem dX12_housesTold_39 : decode cX12_housesTold 39 = .ok (.if_icmp .gt 5, 3) := by decide +kernel
theorem dX12_housesTold_42 : decode cX12_housesTold 42 = .ok (.iconst 0, 1) := by decide +kernel
theorem dX12_housesTold_43 : decode cX12_housesTold 43 = .ok (.ireturn, 1) := by decide +kernel
theorem dX12_housesTold_44 : decode cX12_housesTold 44 = .ok (.iinc 1 1, 3) := by decide +kernel
theorem dX12_housesTold_47 : decode cX12_housesTold 47 = .ok (.goto (-45), 3) := by decide +kernel
theorem dX12_housesTold_50 : decode cX12_housesTold 50 = .ok (.iconst 1, 1) := by decide +kernel
theorem dX12_housesTold_51 : decode cX12_housesTold 51 = .ok (.ireturn, 1) := by decide +kernel
set_option maxRecDepth 100000 in
theorem lp_ht {l : Launch} {dd : Nat} {Po : zPo} {K0 : zK} {h0 : List va_E} {Xo : zK → Prop} {Gc : zG → Prop} (z : Nat) (a : Nat → Nat) (sz fa nk oo be ho : Nat) (bt : Nat → Nat) (hsz : sz ≤ 740) (hbt : ∀ j, bt j < 256) (hP : ∀ r K', r = some (.int (nI (bN (hTd bt sz)))) ∧ K' = [(z, .inr (10, fPR a sz fa nk oo be ho)), (a 0, .inl (0, 740, .inl (nF bt)))] → Po r K') : ∀ (m i : Nat), i + m = sz → (∀ j, j < i → bt j ≤ 99 ∧ (0 < j → bt (j - 1) < bt j)) → zS (l, mX12_housesTold, dd, Po, K0, h0, Xo, Gc) 0 0 2 [(0, .ref z), (1, .int (nI i))] [] [(z, .inr (10, fPR a sz fa nk oo be ho)), (a 0, .inl (0, 740, .inl (nF bt)))] := by
  intro m
  induction m with
  | zero =>
    intro i hi hA
    refine zs_iload_n dX12_housesTold_2 rfl ?_
    refine zs_aload_n dX12_housesTold_3 rfl rfl ?_
    refine zs_get 0 dX12_housesTold_4 zf_RX12_88 rfl (v := .int (nI sz)) rfl ?_
    refine zs_icmp_ge (tgt := 50) dX12_housesTold_7 (by decide) (fun c_1 => ?_) (fun c_1 => (c_1 (by rw [show i = sz by omega]; exact Int32.le_refl _) : False).elim)
    refine zs_iconst (v := nI 1) dX12_housesTold_50 (by decide) ?_
    have hij : i = sz := by omega
    rw [hij] at hA
    exact zs_zret dX12_housesTold_51 rfl (Or.inr rfl) (hP _ _ ⟨by rw [hTd_y hA]; rfl, rfl⟩)
  | succ m ih =>
    intro i hi hA
    refine zs_iload_n dX12_housesTold_2 rfl ?_
    refine zs_aload_n dX12_housesTold_3 rfl rfl ?_
    refine zs_get 0 dX12_housesTold_4 zf_RX12_88 rfl (v := .int (nI sz)) rfl ?_
    refine zs_icmp_ge (tgt := 50) dX12_housesTold_7 (by decide) (fun c_1 => (nI_ge (show i < sz by omega) (by omega) c_1 : False).elim) (fun c_1 => ?_)
    have hb1 := hbt i
    have hb2 := hbt (i - 1)
    refine zs_aload_n dX12_housesTold_10 rfl rfl ?_
    refine zs_get 0 dX12_housesTold_11 zf_RX12_9 rfl (v := .ref (a 0)) rfl ?_
    refine zs_iload_n dX12_housesTold_14 rfl ?_
    refine zs_iald 1 dX12_housesTold_15 rfl (vp_in_nI (by omega) (by omega)) ?_
    refine zs_as (y := nI (bt i)) (by rw [nI_c (n := i) (by omega)]; rfl) ?_
    refine zs_bipush (v := nI 99) dX12_housesTold_16 (by decide) ?_
    refine zs_icmp_gt (tgt := 42) dX12_housesTold_18 (by decide) (fun c_2 => ?_) (fun c_2 => ?_)
    · have c_2 : 99 < (bt i) := by have hc := c_2; rw [nI_lt' (by omega) (by omega)] at hc; exact hc
      refine zs_iconst (v := nI 0) dX12_housesTold_42 (by decide) ?_
      exact zs_zret dX12_housesTold_43 rfl (Or.inl rfl) (hP _ _ ⟨by rw [hTd_n (show ¬ hTdP bt sz from fun h => by have h1 := (h i (by omega)).1; have h2 := (h i (by omega)).2; omega)]; rfl, rfl⟩)
    · have c_2 : ¬ (99 < (bt i)) := by have hc := c_2; rw [nI_lt' (by omega) (by omega)] at hc; exact hc
      refine zs_iload_n dX12_housesTold_21 rfl ?_
      refine zs_if_le (tgt := 44) dX12_housesTold_22 (by decide) (fun c_3 => ?_) (fun c_3 => ?_)
      · have c_3 : i ≤ 0 := by have hc := c_3; rw [show (0 : Int32) = nI 0 from rfl] at hc; rw [nI_le' (by omega) (by omega)] at hc; exact hc
        refine zs_iinc (v := (nI (i + 1))) (lv' := [(1, .int (nI (i + 1))), (0, .ref z)]) dX12_housesTold_44 rfl (nI_add _ 1) (Nat.le_of_ble_eq_true rfl) rfl ?_
        refine zs_goto (tgt := 2) dX12_housesTold_47 (by decide) ?_
        refine zs_lv [1, 0] rfl ?_
        exact ih (i + 1) (by omega) (fun j hj => (Nat.lt_or_eq_of_le (Nat.le_of_lt_succ hj)).elim (hA j) (fun e => e ▸ ⟨by omega, fun _ => by omega⟩))
      · have c_3 : ¬ (i ≤ 0) := by have hc := c_3; rw [show (0 : Int32) = nI 0 from rfl] at hc; rw [nI_le' (by omega) (by omega)] at hc; exact hc
        refine zs_aload_n dX12_housesTold_25 rfl rfl ?_
        refine zs_get 0 dX12_housesTold_26 zf_RX12_9 rfl (v := .ref (a 0)) rfl ?_
        refine zs_iload_n dX12_housesTold_29 rfl ?_
        refine zs_iald 1 dX12_housesTold_30 rfl (vp_in_nI (by omega) (by omega)) ?_
        refine zs_as (y := nI (bt i)) (by rw [nI_c (n := i) (by omega)]; rfl) ?_
        refine zs_aload_n dX12_housesTold_31 rfl rfl ?_
        refine zs_get 0 dX12_housesTold_32 zf_RX12_9 rfl (v := .ref (a 0)) rfl ?_
        refine zs_iload_n dX12_housesTold_35 rfl ?_
        refine zs_iconst (v := nI 1) dX12_housesTold_36 (by decide) ?_
        refine zs_isub dX12_housesTold_37 ?_
        refine zs_as (y := nI (i - 1)) (nI_sub (by omega)) ?_
        refine zs_iald 1 dX12_housesTold_38 rfl (vp_in_nI (by omega) (by omega)) ?_
        refine zs_as (y := nI (bt (i - 1))) (by rw [nI_c (n := i - 1) (by omega)]; rfl) ?_
        refine zs_icmp_gt (tgt := 44) dX12_housesTold_39 (by decide) (fun c_4 => ?_) (fun c_4 => ?_)
        · have c_4 : (bt (i - 1)) < (bt i) := by have hc := c_4; rw [nI_lt' (by omega) (by omega)] at hc; exact hc
          refine zs_iinc (v := (nI (i + 1))) (lv' := [(1, .int (nI (i + 1))), (0, .ref z)]) dX12_housesTold_44 rfl (nI_add _ 1) (Nat.le_of_ble_eq_true rfl) rfl ?_
          refine zs_goto (tgt := 2) dX12_housesTold_47 (by decide) ?_
          refine zs_lv [1, 0] rfl ?_
          exact ih (i + 1) (by omega) (fun j hj => (Nat.lt_or_eq_of_le (Nat.le_of_lt_succ hj)).elim (hA j) (fun e => e ▸ ⟨by omega, fun _ => by omega⟩))
        · have c_4 : ¬ ((bt (i - 1)) < (bt i)) := by have hc := c_4; rw [nI_lt' (by omega) (by omega)] at hc; exact hc
          refine zs_iconst (v := nI 0) dX12_housesTold_42 (by decide) ?_
          exact zs_zret dX12_housesTold_43 rfl (Or.inl rfl) (hP _ _ ⟨by rw [hTd_n (show ¬ hTdP bt sz from fun h => by have h1 := (h i (by omega)).1; have h2 := (h i (by omega)).2; omega)]; rfl, rfl⟩)
set_option maxRecDepth 100000 in
theorem s_housesTold (l : Launch) (dd : Nat) (z : Nat) (a : Nat → Nat) (sz fa nk oo be ho : Nat) (bt : Nat → Nat) (hsz : sz ≤ 740) (hbt : ∀ j, bt j < 256) : zSp l mX12_housesTold dd 0 0 [.ref z] [(z, .inr (10, fPR a sz fa nk oo be ho)), (a 0, .inl (0, 740, .inl (nF bt)))] (fun r K' => r = some (.int (nI (bN (hTd bt sz)))) ∧ K' = [(z, .inr (10, fPR a sz fa nk oo be ho)), (a 0, .inl (0, 740, .inl (nF bt)))]) := by
  refine zSp.of (by decide) (Nat.le_of_ble_eq_true rfl) (fun h0 => ?_)
  show zS _ 0 0 0 [(0, .ref z)] [] [(z, .inr (10, fPR a sz fa nk oo be ho)), (a 0, .inl (0, 740, .inl (nF bt)))]
  refine zs_iconst (v := nI 0) dX12_housesTold_0 (by decide) ?_
  refine zs_istore_n (lv' := [(1, .int (nI 0)), (0, .ref z)]) dX12_housesTold_1 (Nat.le_of_ble_eq_true rfl) rfl ?_
  refine zs_lv [1, 0] rfl ?_
  exact lp_ht z a sz fa nk oo be ho bt hsz hbt (fun r K1 h => h) sz 0 (Nat.zero_add _) (fun k hk => absurd hk (Nat.not_lt_zero k))
theorem dX12_greatestWay_0 : decode cX12_greatestWay 0 = .ok (.iconst 0, 1) := by decide +kernel
theorem dX12_greatestWay_1 : decode cX12_greatestWay 1 = .ok (.istore_n 2, 1) := by decide +kernel
theorem dX12_greatestWay_2 : decode cX12_greatestWay 2 = .ok (.iconst 0, 1) := by decide +kernel
theorem dX12_greatestWay_3 : decode cX12_greatestWay 3 = .ok (.istore_n 3, 1) := by decide +kernel
theorem dX12_greatestWay_4 : decode cX12_greatestWay 4 = .ok (.iload_n 3, 1) := by decide +kernel
theorem dX12_greatestWay_5 : decode cX12_greatestWay 5 = .ok (.aload_n 0, 1) := by decide +kernel
theorem dX12_greatestWay_6 : decode cX12_greatestWay 6 = .ok (.arraylength, 1) := by decide +kernel
theorem dX12_greatestWay_7 : decode cX12_greatestWay 7 = .ok (.if_icmp .ge 56, 3) := by decide +kernel
theorem dX12_greatestWay_10 : decode cX12_greatestWay 10 = .ok (.ldc 254, 2) := by decide +kernel
theorem dX12_greatestWay_12 : decode cX12_greatestWay 12 = .ok (.istore 4, 2) := by decide +kernel
theorem dX12_greatestWay_14 : decode cX12_greatestWay 14 = .ok (.iconst 0, 1) := by decide +kernel
theorem dX12_greatestWay_15 : decode cX12_greatestWay 15 = .ok (.istore 5, 2) := by decide +kernel
theorem dX12_greatestWay_17 : decode cX12_greatestWay 17 = .ok (.iload 5, 2) := by decide +kernel
theorem dX12_greatestWay_19 : decode cX12_greatestWay 19 = .ok (.aload_n 1, 1) := by decide +kernel
theorem dX12_greatestWay_20 : decode cX12_greatestWay 20 = .ok (.arraylength, 1) := by decide +kernel
theorem dX12_greatestWay_21 : decode cX12_greatestWay 21 = .ok (.if_icmp .ge 29, 3) := by decide +kernel
theorem dX12_greatestWay_24 : decode cX12_greatestWay 24 = .ok (.iload 4, 2) := by decide +kernel
theorem dX12_greatestWay_26 : decode cX12_greatestWay 26 = .ok (.aload_n 0, 1) := by decide +kernel
theorem dX12_greatestWay_27 : decode cX12_greatestWay 27 = .ok (.iload_n 3, 1) := by decide +kernel
theorem dX12_greatestWay_28 : decode cX12_greatestWay 28 = .ok (.iaload, 1) := by decide +kernel
theorem dX12_greatestWay_29 : decode cX12_greatestWay 29 = .ok (.aload_n 0, 1) := by decide +kernel
theorem dX12_greatestWay_30 : decode cX12_greatestWay 30 = .ok (.aload_n 1, 1) := by decide +kernel
theorem dX12_greatestWay_31 : decode cX12_greatestWay 31 = .ok (.iload 5, 2) := by decide +kernel
theorem dX12_greatestWay_33 : decode cX12_greatestWay 33 = .ok (.iaload, 1) := by decide +kernel
theorem dX12_greatestWay_34 : decode cX12_greatestWay 34 = .ok (.iaload, 1) := by decide +kernel
theorem dX12_greatestWay_35 : decode cX12_greatestWay 35 = .ok (.isub, 1) := by decide +kernel
theorem dX12_greatestWay_36 : decode cX12_greatestWay 36 = .ok (.invokestatic 307, 3) := by decide +kernel
theorem dX12_greatestWay_39 : decode cX12_greatestWay 39 = .ok (.invokestatic 311, 3) := by decide +kernel
theorem dX12_greatestWay_42 : decode cX12_greatestWay 42 = .ok (.istore 4, 2) := by decide +kernel
theorem dX12_greatestWay_44 : decode cX12_greatestWay 44 = .ok (.iinc 5 1, 3) := by decide +kernel
theorem dX12_greatestWay_47 : decode cX12_greatestWay 47 = .ok (.goto (-30), 3) := by decide +kernel
theorem dX12_greatestWay_50 : decode cX12_greatestWay 50 = .ok (.iload_n 2, 1) := by decide +kernel
theorem dX12_greatestWay_51 : decode cX12_greatestWay 51 = .ok (.iload 4, 2) := by decide +kernel
theorem dX12_greatestWay_53 : decode cX12_greatestWay 53 = .ok (.invokestatic 242, 3) := by decide +kernel
theorem dX12_greatestWay_56 : decode cX12_greatestWay 56 = .ok (.istore_n 2, 1) := by decide +kernel
theorem dX12_greatestWay_57 : decode cX12_greatestWay 57 = .ok (.iinc 3 1, 3) := by decide +kernel
theorem dX12_greatestWay_60 : decode cX12_greatestWay 60 = .ok (.goto (-56), 3) := by decide +kernel
theorem dX12_greatestWay_63 : decode cX12_greatestWay 63 = .ok (.iload_n 2, 1) := by decide +kernel
theorem dX12_greatestWay_64 : decode cX12_greatestWay 64 = .ok (.ireturn, 1) := by decide +kernel
set_option maxRecDepth 100000 in
theorem lp_gw1 {l : Launch} {dd : Nat} {Po : zPo} {K0 : zK} {h0 : List va_E} {Xo : zK → Prop} {Gc : zG → Prop} (q q2 n k : Nat) (H at_ : Nat → Nat) (h : Nat) (hd : 1 ≤ dd) (hn : n ≤ 1000) (hk1 : k ≤ n) (hH : ∀ i, i < n → H i ≤ 99) (hc : nCh at_ n k) (hh : h < n)
    (hk : zS (l, mX12_greatestWay, dd, Po, K0, h0, Xo, Gc) 0 0 50 [(0, .ref q), (1, .ref q2), (2, .int (nI (pGw H at_ k h))), (3, .int (nI h)), (4, .int (nI (pNe H at_ h k)))] [] [(q, .inl (0, n, .inl (nF H))), (q2, .inl (0, k, .inl (nF at_)))]) :
    ∀ (m i : Nat) , i + m = k → zS (l, mX12_greatestWay, dd, Po, K0, h0, Xo, Gc) 0 0 17 [(0, .ref q), (1, .ref q2), (2, .int (nI (pGw H at_ k h))), (3, .int (nI h)), (4, .int (nI (pNe H at_ h i))), (5, .int (nI i))] [] [(q, .inl (0, n, .inl (nF H))), (q2, .inl (0, k, .inl (nF at_)))] := by
  intro m
  induction m with
  | zero =>
    intro i hi
    refine zs_iload dX12_greatestWay_17 rfl ?_
    refine zs_aload_n dX12_greatestWay_19 rfl rfl ?_
    refine zs_alen (v := (nI k)) 1 dX12_greatestWay_20 rfl (by decide) rfl ?_
    refine zs_icmp_ge (tgt := 50) dX12_greatestWay_21 (by decide) (fun c_1 => ?_) (fun c_1 => (c_1 (by rw [show i = k by omega]; exact Int32.le_refl _) : False).elim)
    rw [show i = k by omega]
    refine zs_lv [0, 1, 2, 3, 4] rfl ?_
    exact hk
  | succ m ih =>
    intro i hi
    have hat := hc i (by omega)
    have hH1 := hH h hh
    have hH2 := hH (at_ i) (by omega)
    have hp := pNe_le (H := H) (at_ := at_) (h := h) i
    have hds : nDs (H h) (H (at_ i)) ≤ 200 := by unfold nDs; omega
    refine zs_iload dX12_greatestWay_17 rfl ?_
    refine zs_aload_n dX12_greatestWay_19 rfl rfl ?_
    refine zs_alen (v := (nI k)) 1 dX12_greatestWay_20 rfl (by decide) rfl ?_
    refine zs_icmp_ge (tgt := 50) dX12_greatestWay_21 (by decide) (fun c_1 => (nI_ge (show i < k by omega) (by omega) c_1 : False).elim) (fun c_1 => ?_)
    refine zs_iload dX12_greatestWay_24 rfl ?_
    refine zs_aload_n dX12_greatestWay_26 rfl rfl ?_
    refine zs_iload_n dX12_greatestWay_27 rfl ?_
    refine zs_iald 0 dX12_greatestWay_28 rfl (vp_in_nI (by omega) (by omega)) ?_
    refine zs_as (y := nI (H h)) (by rw [nI_c (n := h) (by omega)]; rfl) ?_
    refine zs_aload_n dX12_greatestWay_29 rfl rfl ?_
    refine zs_aload_n dX12_greatestWay_30 rfl rfl ?_
    refine zs_iload dX12_greatestWay_31 rfl ?_
    refine zs_iald 1 dX12_greatestWay_33 rfl (vp_in_nI (by omega) (by omega)) ?_
    refine zs_as (y := nI (at_ i)) (by rw [nI_c (n := i) (by omega)]; rfl) ?_
    refine zs_iald 0 dX12_greatestWay_34 rfl (vp_in_nI (by omega) (by omega)) ?_
    refine zs_as (y := nI (H (at_ i))) (by rw [nI_c (n := at_ i) (by omega)]; rfl) ?_
    refine zs_isub dX12_greatestWay_35 ?_
    refine zs_mabs dX12_greatestWay_36 zl_RX12_307 zmabs1 zmath2 zmabs3 (show 1 ≤ dd by omega) (Nat.le_of_ble_eq_true rfl) ?_
    refine zs_as (y := nI (nDs (H h) (H (at_ i)))) (nI_ds (by omega) (by omega)) ?_
    refine zs_mmin dX12_greatestWay_39 zl_RX12_311 zmmin1 zmath2 zmmin3 (show 1 ≤ dd by omega) (Nat.le_of_ble_eq_true rfl) ?_
    refine zs_as (y := nI (pNe H at_ h (i + 1))) (nI_mnx (by omega) (by omega)) ?_
    refine zs_istore (lv' := [(4, .int (nI (pNe H at_ h (i + 1)))), (0, .ref q), (1, .ref q2), (2, .int (nI (pGw H at_ k h))), (3, .int (nI h)), (5, .int (nI i))]) dX12_greatestWay_42 (Nat.le_of_ble_eq_true rfl) rfl ?_
    refine zs_iinc (v := (nI (i + 1))) (lv' := [(5, .int (nI (i + 1))), (4, .int (nI (pNe H at_ h (i + 1)))), (0, .ref q), (1, .ref q2), (2, .int (nI (pGw H at_ k h))), (3, .int (nI h))]) dX12_greatestWay_44 rfl (nI_add _ 1) (Nat.le_of_ble_eq_true rfl) rfl ?_
    refine zs_goto (tgt := 17) dX12_greatestWay_47 (by decide) ?_
    refine zs_lv [2, 3, 4, 5, 1, 0] rfl ?_
    exact ih (i + 1) (by omega)
set_option maxRecDepth 100000 in
theorem lp_gw2 {l : Launch} {dd : Nat} {Po : zPo} {K0 : zK} {h0 : List va_E} {Xo : zK → Prop} {Gc : zG → Prop} (q q2 n k : Nat) (H at_ : Nat → Nat) (hd : 1 ≤ dd) (hn : n ≤ 1000) (hk1 : k ≤ n) (hH : ∀ i, i < n → H i ≤ 99) (hc : nCh at_ n k) (hP : ∀ r K', r = some (.int (nI (pGw H at_ k n))) ∧ K' = [(q, .inl (0, n, .inl (nF H))), (q2, .inl (0, k, .inl (nF at_)))] → Po r K') : ∀ (m h : Nat), h + m = n → zS (l, mX12_greatestWay, dd, Po, K0, h0, Xo, Gc) 0 0 4 [(0, .ref q), (1, .ref q2), (2, .int (nI (pGw H at_ k h))), (3, .int (nI h))] [] [(q, .inl (0, n, .inl (nF H))), (q2, .inl (0, k, .inl (nF at_)))] := by
  intro m
  induction m with
  | zero =>
    intro h hm
    refine zs_iload_n dX12_greatestWay_4 rfl ?_
    refine zs_aload_n dX12_greatestWay_5 rfl rfl ?_
    refine zs_alen (v := (nI n)) 0 dX12_greatestWay_6 rfl (by decide) rfl ?_
    refine zs_icmp_ge (tgt := 63) dX12_greatestWay_7 (by decide) (fun c_1 => ?_) (fun c_1 => (c_1 (by rw [show h = n by omega]; exact Int32.le_refl _) : False).elim)
    refine zs_iload_n dX12_greatestWay_63 rfl ?_
    exact zs_iret dX12_greatestWay_64 rfl (hP _ _ ⟨by rw [show h = n by omega], rfl⟩)
  | succ m ih =>
    intro h hm
    have hp := pNe_le (H := H) (at_ := at_) (h := h) k
    have hg := pGw_le (H := H) (at_ := at_) (k := k) h
    refine zs_iload_n dX12_greatestWay_4 rfl ?_
    refine zs_aload_n dX12_greatestWay_5 rfl rfl ?_
    refine zs_alen (v := (nI n)) 0 dX12_greatestWay_6 rfl (by decide) rfl ?_
    refine zs_icmp_ge (tgt := 63) dX12_greatestWay_7 (by decide) (fun c_1 => (nI_ge (show h < n by omega) (by omega) c_1 : False).elim) (fun c_1 => ?_)
    refine zs_ldc (v := 2147483647) dX12_greatestWay_10 zk_RX12_254 ?_
    refine zs_istore (lv' := [(4, .int 2147483647), (0, .ref q), (1, .ref q2), (2, .int (nI (pGw H at_ k h))), (3, .int (nI h))]) dX12_greatestWay_12 (Nat.le_of_ble_eq_true rfl) rfl ?_
    refine zs_iconst (v := nI 0) dX12_greatestWay_14 (by decide) ?_
    refine zs_istore (lv' := [(5, .int (nI 0)), (4, .int 2147483647), (0, .ref q), (1, .ref q2), (2, .int (nI (pGw H at_ k h))), (3, .int (nI h))]) dX12_greatestWay_15 (Nat.le_of_ble_eq_true rfl) rfl ?_
    refine zs_lv [2, 3, 4, 5, 1, 0] rfl ?_
    refine lp_gw1 q q2 n k H at_ h hd hn hk1 hH hc (by omega) ?_ k 0 (Nat.zero_add _)
    refine zs_iload_n dX12_greatestWay_50 rfl ?_
    refine zs_iload dX12_greatestWay_51 rfl ?_
    refine zs_mmax dX12_greatestWay_53 zl_RX12_242 zmmax1 zmath2 zmmax3 (show 1 ≤ dd by omega) (Nat.le_of_ble_eq_true rfl) ?_
    refine zs_as (y := nI (pGw H at_ k (h + 1))) (nI_max (by omega) (by omega)) ?_
    refine zs_istore_n (lv' := [(2, .int (nI (pGw H at_ k (h + 1)))), (0, .ref q), (1, .ref q2), (3, .int (nI h)), (4, .int (nI (pNe H at_ h k)))]) dX12_greatestWay_56 (Nat.le_of_ble_eq_true rfl) rfl ?_
    refine zs_iinc (v := (nI (h + 1))) (lv' := [(3, .int (nI (h + 1))), (2, .int (nI (pGw H at_ k (h + 1)))), (0, .ref q), (1, .ref q2), (4, .int (nI (pNe H at_ h k)))]) dX12_greatestWay_57 rfl (nI_add _ 1) (Nat.le_of_ble_eq_true rfl) rfl ?_
    refine zs_goto (tgt := 4) dX12_greatestWay_60 (by decide) ?_
    refine zs_lv [2, 3, 1, 0] rfl ?_
    exact ih (h + 1) (by omega)
set_option maxRecDepth 100000 in
theorem s_greatestWay (l : Launch) (dd : Nat) (q q2 n k : Nat) (H at_ : Nat → Nat) (hd : 1 ≤ dd) (hn : n ≤ 1000) (hk1 : k ≤ n) (hH : ∀ i, i < n → H i ≤ 99) (hc : nCh at_ n k) : zSp l mX12_greatestWay dd 0 0 [.ref q, .ref q2] [(q, .inl (0, n, .inl (nF H))), (q2, .inl (0, k, .inl (nF at_)))] (fun r K' => r = some (.int (nI (pGw H at_ k n))) ∧ K' = [(q, .inl (0, n, .inl (nF H))), (q2, .inl (0, k, .inl (nF at_)))]) := by
  refine zSp.of (by decide) (Nat.le_of_ble_eq_true rfl) (fun h0 => ?_)
  show zS _ 0 0 0 [(0, .ref q), (1, .ref q2)] [] [(q, .inl (0, n, .inl (nF H))), (q2, .inl (0, k, .inl (nF at_)))]
  refine zs_iconst (v := nI 0) dX12_greatestWay_0 (by decide) ?_
  refine zs_istore_n (lv' := [(2, .int (nI 0)), (0, .ref q), (1, .ref q2)]) dX12_greatestWay_1 (Nat.le_of_ble_eq_true rfl) rfl ?_
  refine zs_iconst (v := nI 0) dX12_greatestWay_2 (by decide) ?_
  refine zs_istore_n (lv' := [(3, .int (nI 0)), (2, .int (nI 0)), (0, .ref q), (1, .ref q2)]) dX12_greatestWay_3 (Nat.le_of_ble_eq_true rfl) rfl ?_
  refine zs_lv [2, 3, 1, 0] rfl ?_
  exact lp_gw2 q q2 n k H at_ hd hn hk1 hH hc (fun r K1 h => h) n 0 (Nat.zero_add _)
