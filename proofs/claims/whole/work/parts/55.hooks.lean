/-! ===== the class itself: hooks, choice by choice ===== -/
def dI : Nat → Int32
  | 0 => -1
  | j + 1 => nI j
theorem dI_s (j : Nat) : nI j + Int32.ofInt (-1) = dI j := by
  cases j with
  | zero => decide
  | succ j => exact nI_dec (by omega)
/-- a choice whose p-th rises, the places below i set -/
def nPt (at_ : Nat → Nat) (p i : Nat) : Nat → Nat := fun x => if x < p then at_ x else if x < i then at_ p + 1 + (x - p) else at_ x
theorem nPt_0 (at_ : Nat → Nat) (p : Nat) : un at_ p (at_ p + 1) = nPt at_ p (p + 1) := by
  funext x
  unfold un nPt
  by_cases h : x = p
  · rw [if_pos h, if_neg (by omega), if_pos (by omega), h, Nat.sub_self]
  · rw [if_neg h]
    by_cases h2 : x < p
    · rw [if_pos h2]
    · rw [if_neg h2, if_neg (by omega)]
theorem nPt_u {at_ : Nat → Nat} {p i v : Nat} (hi : p < i) (hv : v = at_ p + 1 + (i - p)) : un (nPt at_ p i) i v = nPt at_ p (i + 1) := by
  funext x
  unfold un nPt
  by_cases h : x = i
  · rw [if_pos h, if_neg (by omega), if_pos (by omega), hv, h]
  · rw [if_neg h]
    by_cases h2 : x < p
    · rw [if_pos h2, if_pos h2]
    · rw [if_neg h2, if_neg h2]
      by_cases h3 : x < i
      · rw [if_pos h3, if_pos (by omega)]
      · rw [if_neg h3, if_neg (by omega)]
theorem nPt_k (at_ : Nat → Nat) (p k : Nat) : nPt at_ p k = nAt2 at_ k p := rfl
theorem nPt_r {at_ : Nat → Nat} {p i : Nat} (hi : p < i) : nPt at_ p i (i - 1) = at_ p + 1 + (i - 1 - p) := by
  unfold nPt
  rw [if_neg (by omega), if_pos (by omega)]
theorem dX12_nextChoice_0 : decode cX12_nextChoice 0 = .ok (.aload_n 0, 1) := by decide +kernel
theorem dX12_nextChoice_1 : decode cX12_nextChoice 1 = .ok (.arraylength, 1) := by decide +kernel
theorem dX12_nextChoice_2 : decode cX12_nextChoice 2 = .ok (.iconst 1, 1) := by decide +kernel
theorem dX12_nextChoice_3 : decode cX12_nextChoice 3 = .ok (.isub, 1) := by decide +kernel
theorem dX12_nextChoice_4 : decode cX12_nextChoice 4 = .ok (.istore_n 2, 1) := by decide +kernel
theorem dX12_nextChoice_5 : decode cX12_nextChoice 5 = .ok (.iload_n 2, 1) := by decide +kernel
theorem dX12_nextChoice_6 : decode cX12_nextChoice 6 = .ok (.ifCond .lt 21, 3) := by decide +kernel
theorem dX12_nextChoice_9 : decode cX12_nextChoice 9 = .ok (.aload_n 0, 1) := by decide +kernel
theorem dX12_nextChoice_10 : decode cX12_nextChoice 10 = .ok (.iload_n 2, 1) := by decide +kernel
theorem dX12_nextChoice_11 : decode cX12_nextChoice 11 = .ok (.iaload, 1) := by decide +kernel
theorem dX12_nextChoice_12 : decode cX12_nextChoice 12 = .ok (.iload_n 1, 1) := by decide +kernel
theorem dX12_nextChoice_13 : decode cX12_nextChoice 13 = .ok (.aload_n 0, 1) := by decide +kernel
theorem dX12_nextChoice_14 : decode cX12_nextChoice 14 = .ok (.arraylength, 1) := by decide +kernel
theorem dX12_nextChoice_15 : decode cX12_nextChoice 15 = .ok (.isub, 1) := by decide +kernel
theorem dX12_nextChoice_16 : decode cX12_nextChoice 16 = .ok (.iload_n 2, 1) := by decide +kernel
theorem dX12_nextChoice_17 : decode cX12_nextChoice 17 = .ok (.iadd, 1) := by decide +kernel
theorem dX12_nextChoice_18 : decode cX12_nextChoice 18 = .ok (.if_icmp .lt 9, 3) := by decide +kernel
theorem dX12_nextChoice_21 : decode cX12_nextChoice 21 = .ok (.iinc 2 (-1), 3) := by decide +kernel
theorem dX12_nextChoice_24 : decode cX12_nextChoice 24 = .ok (.goto (-19), 3) := by decide +kernel
theorem dX12_nextChoice_27 : decode cX12_nextChoice 27 = .ok (.iload_n 2, 1) := by decide +kernel
theorem dX12_nextChoice_28 : decode cX12_nextChoice 28 = .ok (.ifCond .ge 5, 3) := by decide +kernel
theorem dX12_nextChoice_31 : decode cX12_nextChoice 31 = .ok (.iconst 0, 1) := by decide +kernel
theorem dX12_nextChoice_32 : decode cX12_nextChoice 32 = .ok (.ireturn, 1) := by decide +kernel
theorem dX12_nextChoice_33 : decode cX12_nextChoice 33 = .ok (.aload_n 0, 1) := by decide +kernel
theorem dX12_nextChoice_34 : decode cX12_nextChoice 34 = .ok (.iload_n 2, 1) := by decide +kernel
theorem dX12_nextChoice_35 : decode cX12_nextChoice 35 = .ok (.dup2, 1) := by decide +kernel
theorem dX12_nextChoice_36 : decode cX12_nextChoice 36 = .ok (.iaload, 1) := by decide +kernel
theorem dX12_nextChoice_37 : decode cX12_nextChoice 37 = .ok (.iconst 1, 1) := by decide +kernel
theorem dX12_nextChoice_38 : decode cX12_nextChoice 38 = .ok (.iadd, 1) := by decide +kernel
theorem dX12_nextChoice_39 : decode cX12_nextChoice 39 = .ok (.iastore, 1) := by decide +kernel
theorem dX12_nextChoice_40 : decode cX12_nextChoice 40 = .ok (.iload_n 2, 1) := by decide +kernel
theorem dX12_nextChoice_41 : decode cX12_nextChoice 41 = .ok (.iconst 1, 1) := by decide +kernel
theorem dX12_nextChoice_42 : decode cX12_nextChoice 42 = .ok (.iadd, 1) := by decide +kernel
theorem dX12_nextChoice_43 : decode cX12_nextChoice 43 = .ok (.istore_n 3, 1) := by decide +kernel
theorem dX12_nextChoice_44 : decode cX12_nextChoice 44 = .ok (.iload_n 3, 1) := by decide +kernel
theorem dX12_nextChoice_45 : decode cX12_nextChoice 45 = .ok (.aload_n 0, 1) := by decide +kernel
theorem dX12_nextChoice_46 : decode cX12_nextChoice 46 = .ok (.arraylength, 1) := by decide +kernel
theorem dX12_nextChoice_47 : decode cX12_nextChoice 47 = .ok (.if_icmp .ge 19, 3) := by decide +kernel
theorem dX12_nextChoice_50 : decode cX12_nextChoice 50 = .ok (.aload_n 0, 1) := by decide +kernel
theorem dX12_nextChoice_51 : decode cX12_nextChoice 51 = .ok (.iload_n 3, 1) := by decide +kernel
theorem dX12_nextChoice_52 : decode cX12_nextChoice 52 = .ok (.aload_n 0, 1) := by decide +kernel
theorem dX12_nextChoice_53 : decode cX12_nextChoice 53 = .ok (.iload_n 3, 1) := by decide +kernel
theorem dX12_nextChoice_54 : decode cX12_nextChoice 54 = .ok (.iconst 1, 1) := by decide +kernel
theorem dX12_nextChoice_55 : decode cX12_nextChoice 55 = .ok (.isub, 1) := by decide +kernel
theorem dX12_nextChoice_56 : decode cX12_nextChoice 56 = .ok (.iaload, 1) := by decide +kernel
theorem dX12_nextChoice_57 : decode cX12_nextChoice 57 = .ok (.iconst 1, 1) := by decide +kernel
theorem dX12_nextChoice_58 : decode cX12_nextChoice 58 = .ok (.iadd, 1) := by decide +kernel
theorem dX12_nextChoice_59 : decode cX12_nextChoice 59 = .ok (.iastore, 1) := by decide +kernel
theorem dX12_nextChoice_60 : decode cX12_nextChoice 60 = .ok (.iinc 3 1, 3) := by decide +kernel
theorem dX12_nextChoice_63 : decode cX12_nextChoice 63 = .ok (.goto (-19), 3) := by decide +kernel
theorem dX12_nextChoice_66 : decode cX12_nextChoice 66 = .ok (.iconst 1, 1) := by decide +kernel
theorem dX12_nextChoice_67 : decode cX12_nextChoice 67 = .ok (.ireturn, 1) := by decide +kernel
set_option maxRecDepth 100000 in
theorem lp_nc1 {l : Launch} {dd : Nat} {Po : zPo} {K0 : zK} {h0 : List va_E} {Xo : zK → Prop} {Gc : zG → Prop} (q k n : Nat) (at_ : Nat → Nat) (hn : n ≤ 1000) (hk1 : 1 ≤ k ∧ k ≤ n) (hc : nCh at_ n k) (W : Option Nat) (hs : ∀ p, p < k → W = some p → zS (l, mX12_nextChoice, dd, Po, K0, h0, Xo, Gc) 0 0 27 [(0, .ref q), (1, .int (nI n)), (2, .int (nI p))] [] [(q, .inl (0, k, .inl (nF at_)))]) (hn0 : W = none → zS (l, mX12_nextChoice, dd, Po, K0, h0, Xo, Gc) 0 0 27 [(0, .ref q), (1, .int (nI n)), (2, .int (-1))] [] [(q, .inl (0, k, .inl (nF at_)))]) : ∀ j, j ≤ k → nLs at_ n k j = W → zS (l, mX12_nextChoice, dd, Po, K0, h0, Xo, Gc) 0 0 5 [(0, .ref q), (1, .int (nI n)), (2, .int (dI j))] [] [(q, .inl (0, k, .inl (nF at_)))] := by
  intro j
  induction j with
  | zero =>
    intro hjk hW
    show zS (l, mX12_nextChoice, dd, Po, K0, h0, Xo, Gc) 0 0 5 [(0, .ref q), (1, .int (nI n)), (2, .int (-1))] [] [(q, .inl (0, k, .inl (nF at_)))]
    refine zs_iload_n dX12_nextChoice_5 rfl ?_
    refine zs_if_lt (tgt := 27) dX12_nextChoice_6 (by decide) (fun c_1 => ?_) (fun c_1 => (c_1 (by decide) : False).elim)
    refine zs_lv [0, 1, 2] rfl ?_
    exact hn0 hW.symm
  | succ j ih =>
    intro hjk hW
    have hcj := hc j (by omega)
    show zS (l, mX12_nextChoice, dd, Po, K0, h0, Xo, Gc) 0 0 5 [(0, .ref q), (1, .int (nI n)), (2, .int (nI j))] [] [(q, .inl (0, k, .inl (nF at_)))]
    refine zs_iload_n dX12_nextChoice_5 rfl ?_
    refine zs_if_lt (tgt := 27) dX12_nextChoice_6 (by decide) (fun c_1 => (absurd c_1 (by rw [show (0 : Int32) = nI 0 from rfl, nI_lt' (by omega) (by omega)]; omega) : False).elim) (fun c_1 => ?_)
    refine zs_aload_n dX12_nextChoice_9 rfl rfl ?_
    refine zs_iload_n dX12_nextChoice_10 rfl ?_
    refine zs_iald 0 dX12_nextChoice_11 rfl (vp_in_nI (by omega) (by omega)) ?_
    refine zs_as (y := nI (at_ j)) (by rw [nI_c (n := j) (by omega)]; rfl) ?_
    refine zs_iload_n dX12_nextChoice_12 rfl ?_
    refine zs_aload_n dX12_nextChoice_13 rfl rfl ?_
    refine zs_alen (v := (nI k)) 0 dX12_nextChoice_14 rfl (by decide) rfl ?_
    refine zs_isub dX12_nextChoice_15 ?_
    refine zs_as (y := nI (n - k)) (nI_sub (by omega)) ?_
    refine zs_iload_n dX12_nextChoice_16 rfl ?_
    refine zs_iadd dX12_nextChoice_17 ?_
    refine zs_as (y := nI ((n - k) + j)) (nI_add _ _) ?_
    refine zs_icmp_lt (tgt := 27) dX12_nextChoice_18 (by decide) (fun c_2 => ?_) (fun c_2 => ?_)
    · have c_2 : (at_ j) < ((n - k) + j) := by have hc := c_2; rw [nI_lt' (by omega) (by omega)] at hc; exact hc
      refine zs_lv [0, 1, 2] rfl ?_
      exact hs j (by omega) (by rw [← hW, nLs, if_neg (show ¬ n - k + j ≤ at_ j by omega)])
    · have c_2 : ¬ ((at_ j) < ((n - k) + j)) := by have hc := c_2; rw [nI_lt' (by omega) (by omega)] at hc; exact hc
      refine zs_iinc (v := (dI j)) (lv' := [(2, .int (dI j)), (0, .ref q), (1, .int (nI n))]) dX12_nextChoice_21 rfl (dI_s j) (Nat.le_of_ble_eq_true rfl) rfl ?_
      refine zs_goto (tgt := 5) dX12_nextChoice_24 (by decide) ?_
      refine zs_lv [1, 2, 0] rfl ?_
      exact ih (by omega) (by rw [← hW, nLs, if_pos (show n - k + j ≤ at_ j by omega)])
set_option maxRecDepth 100000 in
theorem lp_nc2 {l : Launch} {dd : Nat} {Po : zPo} {K0 : zK} {h0 : List va_E} {Xo : zK → Prop} {Gc : zG → Prop} (q k n : Nat) (at_ : Nat → Nat) (p : Nat) (hn : n ≤ 1000) (hk1 : 1 ≤ k ∧ k ≤ n) (hc : nCh at_ n k) (hp : p < k) (hp2 : at_ p < n - k + p)
    (hk : zS (l, mX12_nextChoice, dd, Po, K0, h0, Xo, Gc) 0 0 66 [(0, .ref q), (1, .int (nI n)), (2, .int (nI p)), (3, .int (nI k))] [] [(q, .inl (0, k, .inl (nF (nPt at_ p k))))]) :
    ∀ (m i : Nat) , i + m = k → p < i → zS (l, mX12_nextChoice, dd, Po, K0, h0, Xo, Gc) 0 0 44 [(0, .ref q), (1, .int (nI n)), (2, .int (nI p)), (3, .int (nI i))] [] [(q, .inl (0, k, .inl (nF (nPt at_ p i))))] := by
  intro m
  induction m with
  | zero =>
    intro i hi hpi
    refine zs_iload_n dX12_nextChoice_44 rfl ?_
    refine zs_aload_n dX12_nextChoice_45 rfl rfl ?_
    refine zs_alen (v := (nI k)) 0 dX12_nextChoice_46 rfl (by decide) rfl ?_
    refine zs_icmp_ge (tgt := 66) dX12_nextChoice_47 (by decide) (fun c_1 => ?_) (fun c_1 => (c_1 (by rw [show i = k by omega]; exact Int32.le_refl _) : False).elim)
    rw [show i = k by omega]
    refine zs_lv [0, 1, 2, 3] rfl ?_
    exact hk
  | succ m ih =>
    intro i hi hpi
    refine zs_iload_n dX12_nextChoice_44 rfl ?_
    refine zs_aload_n dX12_nextChoice_45 rfl rfl ?_
    refine zs_alen (v := (nI k)) 0 dX12_nextChoice_46 rfl (by decide) rfl ?_
    refine zs_icmp_ge (tgt := 66) dX12_nextChoice_47 (by decide) (fun c_1 => (nI_ge (show i < k by omega) (by omega) c_1 : False).elim) (fun c_1 => ?_)
    refine zs_aload_n dX12_nextChoice_50 rfl rfl ?_
    refine zs_iload_n dX12_nextChoice_51 rfl ?_
    refine zs_aload_n dX12_nextChoice_52 rfl rfl ?_
    refine zs_iload_n dX12_nextChoice_53 rfl ?_
    refine zs_iconst (v := nI 1) dX12_nextChoice_54 (by decide) ?_
    refine zs_isub dX12_nextChoice_55 ?_
    refine zs_as (y := nI (i - 1)) (nI_sub (by omega)) ?_
    refine zs_iald 0 dX12_nextChoice_56 rfl (vp_in_nI (by omega) (by omega)) ?_
    refine zs_as (y := nI (at_ p + 1 + (i - 1 - p))) (by rw [nI_c (n := i - 1) (by omega)]; exact congrArg nI (nPt_r (by omega))) ?_
    refine zs_iconst (v := nI 1) dX12_nextChoice_57 (by decide) ?_
    refine zs_iadd dX12_nextChoice_58 ?_
    refine zs_as (y := nI ((at_ p + 1 + (i - 1 - p)) + 1)) (nI_add _ _) ?_
    refine zs_iast 0 dX12_nextChoice_59 rfl (vp_in_nI (by omega) (by omega)) ?_
    rw [nI_c (n := i) (by omega), nF_u]
    rw [nPt_u (by omega) (by omega)]
    show zS _ _ _ _ _ _ [(q, .inl (0, k, .inl (nF (nPt at_ p (i + 1)))))]
    refine zs_iinc (v := (nI (i + 1))) (lv' := [(3, .int (nI (i + 1))), (0, .ref q), (1, .int (nI n)), (2, .int (nI p))]) dX12_nextChoice_60 rfl (nI_add _ 1) (Nat.le_of_ble_eq_true rfl) rfl ?_
    refine zs_goto (tgt := 44) dX12_nextChoice_63 (by decide) ?_
    refine zs_lv [1, 2, 3, 0] rfl ?_
    exact ih (i + 1) (by omega) (by omega)
set_option maxRecDepth 100000 in
theorem s_nextChoice (l : Launch) (dd : Nat) (q k n : Nat) (at_ : Nat → Nat) (hn : n ≤ 1000) (hk1 : 1 ≤ k ∧ k ≤ n) (hc : nCh at_ n k) : zSp l mX12_nextChoice dd 0 0 [.ref q, .int (nI n)] [(q, .inl (0, k, .inl (nF at_)))] (fun r K' => r = some (.int (nI (bN (nNx at_ n k).1))) ∧ K' = [(q, .inl (0, k, .inl (nF ((nNx at_ n k).2))))]) := by
  refine zSp.of (by decide) (Nat.le_of_ble_eq_true rfl) (fun h0 => ?_)
  show zS _ 0 0 0 [(0, .ref q), (1, .int (nI n))] [] [(q, .inl (0, k, .inl (nF at_)))]
  refine zs_aload_n dX12_nextChoice_0 rfl rfl ?_
  refine zs_alen (v := (nI k)) 0 dX12_nextChoice_1 rfl (by decide) rfl ?_
  refine zs_iconst (v := nI 1) dX12_nextChoice_2 (by decide) ?_
  refine zs_isub dX12_nextChoice_3 ?_
  refine zs_as (y := nI (k - 1)) (nI_sub (by omega)) ?_
  refine zs_istore_n (lv' := [(2, .int (nI (k - 1))), (0, .ref q), (1, .int (nI n))]) dX12_nextChoice_4 (Nat.le_of_ble_eq_true rfl) rfl ?_
  refine zs_lv [1, 2, 0] rfl ?_
  rw [show nI (k - 1) = dI k from by cases k with | zero => exact absurd hk1.1 (by decide) | succ k => rfl]
  refine lp_nc1 q k n at_ hn hk1 hc (nLs at_ n k k) (fun p hp hW => ?_) (fun hW => ?_) k (Nat.le_refl _) rfl
  · have hp2 := (nLs_p _ _ hW).2
    refine zs_iload_n dX12_nextChoice_27 rfl ?_
    refine zs_if_ge (tgt := 33) dX12_nextChoice_28 (by decide) (fun c_1 => ?_) (fun c_1 => (absurd c_1 (fun h => h (by rw [show (0 : Int32) = nI 0 from rfl, nI_le' (by omega) (by omega)]; omega)) : False).elim)
    refine zs_aload_n dX12_nextChoice_33 rfl rfl ?_
    refine zs_iload_n dX12_nextChoice_34 rfl ?_
    refine zs_dup2 dX12_nextChoice_35 rfl rfl ?_
    refine zs_iald 0 dX12_nextChoice_36 rfl (vp_in_nI (by omega) (by omega)) ?_
    refine zs_as (y := nI (at_ p)) (by rw [nI_c (n := p) (by omega)]; rfl) ?_
    refine zs_iconst (v := nI 1) dX12_nextChoice_37 (by decide) ?_
    refine zs_iadd dX12_nextChoice_38 ?_
    refine zs_as (y := nI ((at_ p) + 1)) (nI_add _ _) ?_
    refine zs_iast 0 dX12_nextChoice_39 rfl (vp_in_nI (by omega) (by omega)) ?_
    rw [nI_c (n := p) (by omega), nF_u]
    show zS _ _ _ _ _ _ [(q, .inl (0, k, .inl (nF (un at_ p ((at_ p) + 1)))))]
    refine zs_iload_n dX12_nextChoice_40 rfl ?_
    refine zs_iconst (v := nI 1) dX12_nextChoice_41 (by decide) ?_
    refine zs_iadd dX12_nextChoice_42 ?_
    refine zs_as (y := nI (p + 1)) (nI_add _ _) ?_
    refine zs_istore_n (lv' := [(3, .int (nI (p + 1))), (0, .ref q), (1, .int (nI n)), (2, .int (nI p))]) dX12_nextChoice_43 (Nat.le_of_ble_eq_true rfl) rfl ?_
    refine zs_lv [1, 2, 3, 0] rfl ?_
    rw [nPt_0]
    refine lp_nc2 q k n at_ p hn hk1 hc hp hp2 ?_ (k - (p + 1)) (p + 1) (by omega) (by omega)
    refine zs_iconst (v := nI 1) dX12_nextChoice_66 (by decide) ?_
    exact zs_zret dX12_nextChoice_67 rfl (Or.inr rfl) ⟨by rw [nNx_s hW]; rfl, by rw [nNx_s hW]; rfl⟩
  · skip
    refine zs_iload_n dX12_nextChoice_27 rfl ?_
    refine zs_if_ge (tgt := 33) dX12_nextChoice_28 (by decide) (fun c_2 => (absurd c_2 (by decide) : False).elim) (fun c_2 => ?_)
    refine zs_iconst (v := nI 0) dX12_nextChoice_31 (by decide) ?_
    exact zs_zret dX12_nextChoice_32 rfl (Or.inl rfl) ⟨by rw [nNx_n hW]; rfl, by rw [nNx_n hW]⟩
theorem dX12_hooks_0 : decode cX12_hooks 0 = .ok (.iload_n 1, 1) := by decide +kernel
theorem dX12_hooks_1 : decode cX12_hooks 1 = .ok (.iconst 1, 1) := by decide +kernel
theorem dX12_hooks_2 : decode cX12_hooks 2 = .ok (.if_icmp .lt 37, 3) := by decide +kernel
theorem dX12_hooks_5 : decode cX12_hooks 5 = .ok (.iload_n 1, 1) := by decide +kernel
theorem dX12_hooks_6 : decode cX12_hooks 6 = .ok (.bipush 6, 2) := by decide +kernel
theorem dX12_hooks_8 : decode cX12_hooks 8 = .ok (.if_icmp .gt 31, 3) := by decide +kernel
theorem dX12_hooks_11 : decode cX12_hooks 11 = .ok (.aload_n 0, 1) := by decide +kernel
theorem dX12_hooks_12 : decode cX12_hooks 12 = .ok (.getfield 88, 3) := by decide +kernel
theorem dX12_hooks_15 : decode cX12_hooks 15 = .ok (.bipush 12, 2) := by decide +kernel
theorem dX12_hooks_17 : decode cX12_hooks 17 = .ok (.if_icmp .gt 22, 3) := by decide +kernel
theorem dX12_hooks_20 : decode cX12_hooks 20 = .ok (.iload_n 1, 1) := by decide +kernel
theorem dX12_hooks_21 : decode cX12_hooks 21 = .ok (.aload_n 0, 1) := by decide +kernel
theorem dX12_hooks_22 : decode cX12_hooks 22 = .ok (.getfield 88, 3) := by decide +kernel
theorem dX12_hooks_25 : decode cX12_hooks 25 = .ok (.if_icmp .gt 14, 3) := by decide +kernel
theorem dX12_hooks_28 : decode cX12_hooks 28 = .ok (.aload_n 0, 1) := by decide +kernel
theorem dX12_hooks_29 : decode cX12_hooks 29 = .ok (.invokevirtual 296, 3) := by decide +kernel
theorem dX12_hooks_32 : decode cX12_hooks 32 = .ok (.ifCond .eq 7, 3) := by decide +kernel
theorem dX12_hooks_35 : decode cX12_hooks 35 = .ok (.iconst 1, 1) := by decide +kernel
theorem dX12_hooks_36 : decode cX12_hooks 36 = .ok (.goto 4, 3) := by decide +kernel
theorem dX12_hooks_39 : decode cX12_hooks 39 = .ok (.iconst 0, 1) := by decide +kernel
theorem dX12_hooks_40 : decode cX12_hooks 40 = .ok (.istore_n 2, 1) := by decide +kernel
theorem dX12_hooks_41 : decode cX12_hooks 41 = .ok (.aload_n 0, 1) := by decide +kernel
theorem dX12_hooks_42 : decode cX12_hooks 42 = .ok (.invokevirtual 109, 3) := by decide +kernel
theorem dX12_hooks_45 : decode cX12_hooks 45 = .ok (.astore_n 3, 1) := by decide +kernel
theorem dX12_hooks_46 : decode cX12_hooks 46 = .ok (.iload_n 2, 1) := by decide +kernel
theorem dX12_hooks_47 : decode cX12_hooks 47 = .ok (.ifCond .ne 5, 3) := by decide +kernel
theorem dX12_hooks_50 : decode cX12_hooks 50 = .ok (.iconst (-1), 1) := by decide +kernel
theorem dX12_hooks_51 : decode cX12_hooks 51 = .ok (.ireturn, 1) := by decide +kernel
theorem dX12_hooks_52 : decode cX12_hooks 52 = .ok (.iload_n 1, 1) := by decide +kernel
theorem dX12_hooks_53 : decode cX12_hooks 53 = .ok (.newarray .int, 2) := by decide +kernel
theorem dX12_hooks_55 : decode cX12_hooks 55 = .ok (.astore 4, 2) := by decide +kernel
theorem dX12_hooks_57 : decode cX12_hooks 57 = .ok (.iconst 0, 1) := by decide +kernel
theorem dX12_hooks_58 : decode cX12_hooks 58 = .ok (.istore 5, 2) := by decide +kernel
theorem dX12_hooks_60 : decode cX12_hooks 60 = .ok (.iload 5, 2) := by decide +kernel
theorem dX12_hooks_62 : decode cX12_hooks 62 = .ok (.iload_n 1, 1) := by decide +kernel
theorem dX12_hooks_63 : decode cX12_hooks 63 = .ok (.if_icmp .ge 16, 3) := by decide +kernel
theorem dX12_hooks_66 : decode cX12_hooks 66 = .ok (.aload 4, 2) := by decide +kernel
theorem dX12_hooks_68 : decode cX12_hooks 68 = .ok (.iload 5, 2) := by decide +kernel
theorem dX12_hooks_70 : decode cX12_hooks 70 = .ok (.iload 5, 2) := by decide +kernel
theorem dX12_hooks_72 : decode cX12_hooks 72 = .ok (.iastore, 1) := by decide +kernel
theorem dX12_hooks_73 : decode cX12_hooks 73 = .ok (.iinc 5 1, 3) := by decide +kernel
theorem dX12_hooks_76 : decode cX12_hooks 76 = .ok (.goto (-16), 3) := by decide +kernel
theorem dX12_hooks_79 : decode cX12_hooks 79 = .ok (.iload_n 1, 1) := by decide +kernel
theorem dX12_hooks_80 : decode cX12_hooks 80 = .ok (.newarray .int, 2) := by decide +kernel
theorem dX12_hooks_82 : decode cX12_hooks 82 = .ok (.astore 5, 2) := by decide +kernel
theorem dX12_hooks_84 : decode cX12_hooks 84 = .ok (.ldc 254, 2) := by decide +kernel
theorem dX12_hooks_86 : decode cX12_hooks 86 = .ok (.istore 6, 2) := by decide +kernel
theorem dX12_hooks_88 : decode cX12_hooks 88 = .ok (.iconst 1, 1) := by decide +kernel
theorem dX12_hooks_89 : decode cX12_hooks 89 = .ok (.istore 7, 2) := by decide +kernel
theorem dX12_hooks_91 : decode cX12_hooks 91 = .ok (.iconst 0, 1) := by decide +kernel
theorem dX12_hooks_92 : decode cX12_hooks 92 = .ok (.istore 8, 2) := by decide +kernel
theorem dX12_hooks_94 : decode cX12_hooks 94 = .ok (.iload 7, 2) := by decide +kernel
theorem dX12_hooks_96 : decode cX12_hooks 96 = .ok (.ifCond .eq 72, 3) := by decide +kernel
theorem dX12_hooks_99 : decode cX12_hooks 99 = .ok (.iload 8, 2) := by decide +kernel
theorem dX12_hooks_101 : decode cX12_hooks 101 = .ok (.sipush 1000, 3) := by decide +kernel
theorem dX12_hooks_104 : decode cX12_hooks 104 = .ok (.if_icmp .ge 64, 3) := by decide +kernel
theorem dX12_hooks_107 : decode cX12_hooks 107 = .ok (.aload_n 3, 1) := by decide +kernel
theorem dX12_hooks_108 : decode cX12_hooks 108 = .ok (.aload 4, 2) := by decide +kernel
theorem dX12_hooks_110 : decode cX12_hooks 110 = .ok (.invokestatic 300, 3) := by decide +kernel
theorem dX12_hooks_113 : decode cX12_hooks 113 = .ok (.istore 9, 2) := by decide +kernel
theorem dX12_hooks_115 : decode cX12_hooks 115 = .ok (.iload 9, 2) := by decide +kernel
theorem dX12_hooks_117 : decode cX12_hooks 117 = .ok (.iload 6, 2) := by decide +kernel
theorem dX12_hooks_119 : decode cX12_hooks 119 = .ok (.if_icmp .ge 34, 3) := by decide +kernel
theorem dX12_hooks_122 : decode cX12_hooks 122 = .ok (.iload 9, 2) := by decide +kernel
theorem dX12_hooks_124 : decode cX12_hooks 124 = .ok (.istore 6, 2) := by decide +kernel
theorem dX12_hooks_126 : decode cX12_hooks 126 = .ok (.iconst 0, 1) := by decide +kernel
theorem dX12_hooks_127 : decode cX12_hooks 127 = .ok (.istore 10, 2) := by decide +kernel
theorem dX12_hooks_129 : decode cX12_hooks 129 = .ok (.iload 10, 2) := by decide +kernel
theorem dX12_hooks_131 : decode cX12_hooks 131 = .ok (.iload_n 1, 1) := by decide +kernel
theorem dX12_hooks_132 : decode cX12_hooks 132 = .ok (.if_icmp .ge 21, 3) := by decide +kernel
theorem dX12_hooks_135 : decode cX12_hooks 135 = .ok (.aload 5, 2) := by decide +kernel
theorem dX12_hooks_137 : decode cX12_hooks 137 = .ok (.iload 10, 2) := by decide +kernel
theorem dX12_hooks_139 : decode cX12_hooks 139 = .ok (.aload_n 3, 1) := by decide +kernel
theorem dX12_hooks_140 : decode cX12_hooks 140 = .ok (.aload 4, 2) := by decide +kernel
theorem dX12_hooks_142 : decode cX12_hooks 142 = .ok (.iload 10, 2) := by decide +kernel
theorem dX12_hooks_144 : decode cX12_hooks 144 = .ok (.iaload, 1) := by decide +kernel
theorem dX12_hooks_145 : decode cX12_hooks 145 = .ok (.iaload, 1) := by decide +kernel
theorem dX12_hooks_146 : decode cX12_hooks 146 = .ok (.iastore, 1) := by decide +kernel
theorem dX12_hooks_147 : decode cX12_hooks 147 = .ok (.iinc 10 1, 3) := by decide +kernel
theorem dX12_hooks_150 : decode cX12_hooks 150 = .ok (.goto (-21), 3) := by decide +kernel
theorem dX12_hooks_153 : decode cX12_hooks 153 = .ok (.aload 4, 2) := by decide +kernel
theorem dX12_hooks_155 : decode cX12_hooks 155 = .ok (.aload_n 3, 1) := by decide +kernel
theorem dX12_hooks_156 : decode cX12_hooks 156 = .ok (.arraylength, 1) := by decide +kernel
theorem dX12_hooks_157 : decode cX12_hooks 157 = .ok (.invokestatic 303, 3) := by decide +kernel
theorem dX12_hooks_160 : decode cX12_hooks 160 = .ok (.istore 7, 2) := by decide +kernel
theorem dX12_hooks_162 : decode cX12_hooks 162 = .ok (.iinc 8 1, 3) := by decide +kernel
theorem dX12_hooks_165 : decode cX12_hooks 165 = .ok (.goto (-71), 3) := by decide +kernel
theorem dX12_hooks_168 : decode cX12_hooks 168 = .ok (.aload_n 0, 1) := by decide +kernel
theorem dX12_hooks_169 : decode cX12_hooks 169 = .ok (.aload 5, 2) := by decide +kernel
theorem dX12_hooks_171 : decode cX12_hooks 171 = .ok (.putfield 85, 3) := by decide +kernel
theorem dX12_hooks_174 : decode cX12_hooks 174 = .ok (.iload 6, 2) := by decide +kernel
theorem dX12_hooks_176 : decode cX12_hooks 176 = .ok (.ireturn, 1) := by decide +kernel
set_option maxRecDepth 100000 in
theorem lp_hk0 {l : Launch} {dd : Nat} {Po : zPo} {K0 : zK} {h0 : List va_E} {Xo : zK → Prop} {Gc : zG → Prop} (z : Nat) (a : Nat → Nat) (sz fa nk oo be ho : Nat) (bt : Nat → Nat) (k q q2 : Nat) (hd : 3 ≤ dd) (hsz : sz ≤ 12) (hbt : ∀ j, bt j < 256) (hk1 : 1 ≤ k ∧ k ≤ sz) (hk6 : k ≤ 6) (hH : hTdP bt sz)
    (hk : zS (l, mX12_hooks, dd, Po, K0, h0, Xo, Gc) 1 6 79 [(0, .ref z), (1, .int (nI k)), (2, .int (nI 1)), (3, .ref q), (4, .ref q2)] [] [(z, .inr (10, fPR a 0 fa nk oo be ho)), (a 0, .inl (0, 740, .inl (nF bt))), (q, .inl (0, sz, .inl (nF (nCl bt (fun _ => 0) sz)))), (q2, .inl (0, k, .inl (nF (nCl (fun i => i) (fun _ => 0) k))))]) :
    ∀ (m i : Nat) , i + m = k → zS (l, mX12_hooks, dd, Po, K0, h0, Xo, Gc) 1 6 60 [(0, .ref z), (1, .int (nI k)), (2, .int (nI 1)), (3, .ref q), (4, .ref q2), (5, .int (nI i))] [] [(z, .inr (10, fPR a 0 fa nk oo be ho)), (a 0, .inl (0, 740, .inl (nF bt))), (q, .inl (0, sz, .inl (nF (nCl bt (fun _ => 0) sz)))), (q2, .inl (0, k, .inl (nF (nCl (fun i => i) (fun _ => 0) i))))] := by
  intro m
  induction m with
  | zero =>
    intro i hi
    refine zs_iload dX12_hooks_60 rfl ?_
    refine zs_iload_n dX12_hooks_62 rfl ?_
    refine zs_icmp_ge (tgt := 79) dX12_hooks_63 (by decide) (fun c_1 => ?_) (fun c_1 => (c_1 (by rw [show i = k by omega]; exact Int32.le_refl _) : False).elim)
    rw [show i = k by omega]
    refine zs_lv [0, 1, 2, 3, 4] rfl ?_
    exact hk
  | succ m ih =>
    intro i hi
    refine zs_iload dX12_hooks_60 rfl ?_
    refine zs_iload_n dX12_hooks_62 rfl ?_
    refine zs_icmp_ge (tgt := 79) dX12_hooks_63 (by decide) (fun c_1 => (nI_ge (show i < k by omega) (by omega) c_1 : False).elim) (fun c_1 => ?_)
    refine zs_aload dX12_hooks_66 rfl rfl ?_
    refine zs_iload dX12_hooks_68 rfl ?_
    refine zs_iload dX12_hooks_70 rfl ?_
    refine zs_iast 3 dX12_hooks_72 rfl (vp_in_nI (by omega) (by omega)) ?_
    rw [nI_c (n := i) (by omega), nF_u]
    rw [nCl_u (new := fun i => i) (old := fun _ => 0) (k := i) rfl]
    show zS _ _ _ _ _ _ [(z, .inr (10, fPR a 0 fa nk oo be ho)), (a 0, .inl (0, 740, .inl (nF bt))), (q, .inl (0, sz, .inl (nF (nCl bt (fun _ => 0) sz)))), (q2, .inl (0, k, .inl (nF (nCl (fun i => i) (fun _ => 0) (i + 1)))))]
    refine zs_iinc (v := (nI (i + 1))) (lv' := [(5, .int (nI (i + 1))), (0, .ref z), (1, .int (nI k)), (2, .int (nI 1)), (3, .ref q), (4, .ref q2)]) dX12_hooks_73 rfl (nI_add _ 1) (Nat.le_of_ble_eq_true rfl) rfl ?_
    refine zs_goto (tgt := 60) dX12_hooks_76 (by decide) ?_
    refine zs_lv [1, 2, 3, 4, 5, 0] rfl ?_
    exact ih (i + 1) (by omega)
set_option maxRecDepth 100000 in
theorem lp_hk1 {l : Launch} {dd : Nat} {Po : zPo} {K0 : zK} {h0 : List va_E} {Xo : zK → Prop} {Gc : zG → Prop} (z : Nat) (a : Nat → Nat) (sz fa nk oo be ho : Nat) (bt : Nat → Nat) (k q q2 : Nat) (q3 wy ch an : Nat) (at_ fi : Nat → Nat) (hd : 3 ≤ dd) (hsz : sz ≤ 12) (hbt : ∀ j, bt j < 256) (hk1 : 1 ≤ k ∧ k ≤ sz) (hk6 : k ≤ 6) (hH : hTdP bt sz) (hc : nCh at_ sz k)
    (hk : zS (l, mX12_hooks, dd, Po, K0, h0, Xo, Gc) 0 0 153 [(0, .ref z), (1, .int (nI k)), (2, .int (nI 1)), (3, .ref q), (4, .ref q2), (5, .ref q3), (6, .int (nI wy)), (7, .int (nI an)), (8, .int (nI ch)), (9, .int (nI wy))] [] [(z, .inr (10, fPR a 0 fa nk oo be ho)), (a 0, .inl (0, 740, .inl (nF bt))), (q, .inl (0, sz, .inl (nF (nCl bt (fun _ => 0) sz)))), (q2, .inl (0, k, .inl (nF at_))), (q3, .inl (0, k, .inl (nF (nCl (fun i => (nCl bt (fun _ => 0) sz) (at_ i)) fi k))))]) :
    ∀ (m i : Nat) , i + m = k → zS (l, mX12_hooks, dd, Po, K0, h0, Xo, Gc) 0 0 129 [(0, .ref z), (1, .int (nI k)), (2, .int (nI 1)), (3, .ref q), (4, .ref q2), (5, .ref q3), (6, .int (nI wy)), (7, .int (nI an)), (8, .int (nI ch)), (9, .int (nI wy)), (10, .int (nI i))] [] [(z, .inr (10, fPR a 0 fa nk oo be ho)), (a 0, .inl (0, 740, .inl (nF bt))), (q, .inl (0, sz, .inl (nF (nCl bt (fun _ => 0) sz)))), (q2, .inl (0, k, .inl (nF at_))), (q3, .inl (0, k, .inl (nF (nCl (fun i => (nCl bt (fun _ => 0) sz) (at_ i)) fi i))))] := by
  intro m
  induction m with
  | zero =>
    intro i hi
    refine zs_iload dX12_hooks_129 rfl ?_
    refine zs_iload_n dX12_hooks_131 rfl ?_
    refine zs_icmp_ge (tgt := 153) dX12_hooks_132 (by decide) (fun c_1 => ?_) (fun c_1 => (c_1 (by rw [show i = k by omega]; exact Int32.le_refl _) : False).elim)
    rw [show i = k by omega]
    refine zs_lv [0, 1, 2, 3, 4, 5, 6, 7, 8, 9] rfl ?_
    exact hk
  | succ m ih =>
    intro i hi
    have hat := hc i (by omega)
    refine zs_iload dX12_hooks_129 rfl ?_
    refine zs_iload_n dX12_hooks_131 rfl ?_
    refine zs_icmp_ge (tgt := 153) dX12_hooks_132 (by decide) (fun c_1 => (nI_ge (show i < k by omega) (by omega) c_1 : False).elim) (fun c_1 => ?_)
    refine zs_aload dX12_hooks_135 rfl rfl ?_
    refine zs_iload dX12_hooks_137 rfl ?_
    refine zs_aload_n dX12_hooks_139 rfl rfl ?_
    refine zs_aload dX12_hooks_140 rfl rfl ?_
    refine zs_iload dX12_hooks_142 rfl ?_
    refine zs_iald 3 dX12_hooks_144 rfl (vp_in_nI (by omega) (by omega)) ?_
    refine zs_as (y := nI (at_ i)) (by rw [nI_c (n := i) (by omega)]; rfl) ?_
    refine zs_iald 2 dX12_hooks_145 rfl (vp_in_nI (by omega) (by omega)) ?_
    refine zs_as (y := nI ((nCl bt (fun _ => 0) sz) (at_ i))) (by rw [nI_c (n := at_ i) (by omega)]; rfl) ?_
    refine zs_iast 4 dX12_hooks_146 rfl (vp_in_nI (by omega) (by omega)) ?_
    rw [nI_c (n := i) (by omega), nF_u]
    rw [nCl_u (new := fun i => (nCl bt (fun _ => 0) sz) (at_ i)) (old := fi) (k := i) rfl]
    show zS _ _ _ _ _ _ [(z, .inr (10, fPR a 0 fa nk oo be ho)), (a 0, .inl (0, 740, .inl (nF bt))), (q, .inl (0, sz, .inl (nF (nCl bt (fun _ => 0) sz)))), (q2, .inl (0, k, .inl (nF at_))), (q3, .inl (0, k, .inl (nF (nCl (fun i => (nCl bt (fun _ => 0) sz) (at_ i)) fi (i + 1)))))]
    refine zs_iinc (v := (nI (i + 1))) (lv' := [(10, .int (nI (i + 1))), (0, .ref z), (1, .int (nI k)), (2, .int (nI 1)), (3, .ref q), (4, .ref q2), (5, .ref q3), (6, .int (nI wy)), (7, .int (nI an)), (8, .int (nI ch)), (9, .int (nI wy))]) dX12_hooks_147 rfl (nI_add _ 1) (Nat.le_of_ble_eq_true rfl) rfl ?_
    refine zs_goto (tgt := 129) dX12_hooks_150 (by decide) ?_
    refine zs_lv [1, 2, 3, 4, 5, 6, 7, 8, 9, 10, 0] rfl ?_
    exact ih (i + 1) (by omega)
set_option maxRecDepth 100000 in
theorem lp_hk {l : Launch} {dd : Nat} {Po : zPo} {K0 : zK} {h0 : List va_E} {Xo : zK → Prop} {Gc : zG → Prop} (z : Nat) (a : Nat → Nat) (sz fa nk oo be ho : Nat) (bt : Nat → Nat) (k q q2 : Nat) (q3 : Nat) (hd : 3 ≤ dd) (hsz : sz ≤ 12) (hbt : ∀ j, bt j < 256) (hk1 : 1 ≤ k ∧ k ≤ sz) (hk6 : k ≤ 6) (hH : hTdP bt sz) (W : (Nat → Nat) × Nat) (hP : ∀ r K', (∃ q3, r = some (.int (nI W.2)) ∧ K' = [(z, .inr (10, fPR a 0 fa nk oo be q3)), (a 0, .inl (0, 740, .inl (nF bt))), (q3, .inl (0, k, .inl (nF W.1)))]) → Po r K') : ∀ (m ch : Nat) (at_ fi : Nat → Nat) (le : Nat) (an : Bool), ch + m = 1000 → nCh at_ sz k → le ≤ 2147483647 → hLp (nCl bt (fun _ => 0) sz) sz k m at_ fi le an = W → zS (l, mX12_hooks, dd, Po, K0, h0, Xo, Gc) 0 0 94 [(0, .ref z), (1, .int (nI k)), (2, .int (nI 1)), (3, .ref q), (4, .ref q2), (5, .ref q3), (6, .int (nI le)), (7, .int (nI (bN an))), (8, .int (nI ch))] [] [(z, .inr (10, fPR a 0 fa nk oo be ho)), (a 0, .inl (0, 740, .inl (nF bt))), (q, .inl (0, sz, .inl (nF (nCl bt (fun _ => 0) sz)))), (q2, .inl (0, k, .inl (nF at_))), (q3, .inl (0, k, .inl (nF fi)))] := by
  intro m
  induction m with
  | zero =>
    intro ch at_ fi le an hm hc hle hW
    refine zs_iload dX12_hooks_94 rfl ?_
    refine zs_if_eq (tgt := 168) dX12_hooks_96 (by decide) (fun c_1 => ?_) (fun c_1 => ?_)
    · refine zs_aload_n dX12_hooks_168 rfl rfl ?_
      refine zs_aload dX12_hooks_169 rfl rfl ?_
      refine zs_put 0 dX12_hooks_171 zf_RX12_85 rfl (Nat.le_of_ble_eq_true rfl) (zPv_a rfl) ?_
      show zS _ _ _ _ _ _ [(z, .inr (10, fPR a 0 fa nk oo be q3)), (a 0, .inl (0, 740, .inl (nF bt))), (q, .inl (0, sz, .inl (nF (nCl bt (fun _ => 0) sz)))), (q2, .inl (0, k, .inl (nF at_))), (q3, .inl (0, k, .inl (nF fi)))]
      refine zs_iload dX12_hooks_174 rfl ?_
      refine zs_K (K' := [(z, .inr (10, fPR a 0 fa nk oo be q3)), (a 0, .inl (0, 740, .inl (nF bt))), (q3, .inl (0, k, .inl (nF fi)))]) [0, 1, 4] rfl (by decide) ?_
      exact zs_iret dX12_hooks_176 rfl (hP _ _ ⟨q3, by rw [← hW, hLp], by rw [← hW, hLp]⟩)
    · refine zs_iload dX12_hooks_99 rfl ?_
      refine zs_sipush (v := nI 1000) dX12_hooks_101 (by decide) ?_
      refine zs_icmp_ge (tgt := 168) dX12_hooks_104 (by decide) (fun c_2 => ?_) (fun c_2 => (c_2 (by rw [nI_le' (by omega) (by omega)]; omega) : False).elim)
      refine zs_aload_n dX12_hooks_168 rfl rfl ?_
      refine zs_aload dX12_hooks_169 rfl rfl ?_
      refine zs_put 0 dX12_hooks_171 zf_RX12_85 rfl (Nat.le_of_ble_eq_true rfl) (zPv_a rfl) ?_
      show zS _ _ _ _ _ _ [(z, .inr (10, fPR a 0 fa nk oo be q3)), (a 0, .inl (0, 740, .inl (nF bt))), (q, .inl (0, sz, .inl (nF (nCl bt (fun _ => 0) sz)))), (q2, .inl (0, k, .inl (nF at_))), (q3, .inl (0, k, .inl (nF fi)))]
      refine zs_iload dX12_hooks_174 rfl ?_
      refine zs_K (K' := [(z, .inr (10, fPR a 0 fa nk oo be q3)), (a 0, .inl (0, 740, .inl (nF bt))), (q3, .inl (0, k, .inl (nF fi)))]) [0, 1, 4] rfl (by decide) ?_
      exact zs_iret dX12_hooks_176 rfl (hP _ _ ⟨q3, by rw [← hW, hLp], by rw [← hW, hLp]⟩)
  | succ m ih =>
    intro ch at_ fi le an hm hc hle hW
    cases an with
    | false =>
      refine zs_iload dX12_hooks_94 rfl ?_
      refine zs_if_eq (tgt := 168) dX12_hooks_96 (by decide) (fun c_1 => ?_) (fun c_1 => (absurd (by decide : nI (bN false) = 0) c_1 : False).elim)
      refine zs_aload_n dX12_hooks_168 rfl rfl ?_
      refine zs_aload dX12_hooks_169 rfl rfl ?_
      refine zs_put 0 dX12_hooks_171 zf_RX12_85 rfl (Nat.le_of_ble_eq_true rfl) (zPv_a rfl) ?_
      show zS _ _ _ _ _ _ [(z, .inr (10, fPR a 0 fa nk oo be q3)), (a 0, .inl (0, 740, .inl (nF bt))), (q, .inl (0, sz, .inl (nF (nCl bt (fun _ => 0) sz)))), (q2, .inl (0, k, .inl (nF at_))), (q3, .inl (0, k, .inl (nF fi)))]
      refine zs_iload dX12_hooks_174 rfl ?_
      refine zs_K (K' := [(z, .inr (10, fPR a 0 fa nk oo be q3)), (a 0, .inl (0, 740, .inl (nF bt))), (q3, .inl (0, k, .inl (nF fi)))]) [0, 1, 4] rfl (by decide) ?_
      exact zs_iret dX12_hooks_176 rfl (hP _ _ ⟨q3, by rw [← hW, hLp, if_pos rfl], by rw [← hW, hLp, if_pos rfl]⟩)
    | true =>
      have hane : ¬ (true = false) := by decide
      have hbn1 : nI (bN true) = 0 → False := by decide
      have hgl := pGw_le (H := (nCl bt (fun _ => 0) sz)) (at_ := at_) (k := k) sz
      refine zs_iload dX12_hooks_94 rfl ?_
      refine zs_if_eq (tgt := 168) dX12_hooks_96 (by decide) (fun c_1 => (hbn1 c_1 : False).elim) (fun c_1 => ?_)
      refine zs_iload dX12_hooks_99 rfl ?_
      refine zs_sipush (v := nI 1000) dX12_hooks_101 (by decide) ?_
      refine zs_icmp_ge (tgt := 168) dX12_hooks_104 (by decide) (fun c_2 => (absurd c_2 (by rw [nI_le' (by omega) (by omega)]; omega) : False).elim) (fun c_2 => ?_)
      refine zs_aload_n dX12_hooks_107 rfl rfl ?_
      refine zs_aload dX12_hooks_108 rfl rfl ?_
      refine zs_callS (M := mX12_greatestWay) (As := [.ref q, .ref q2]) (st := []) (Kc := [(q, .inl (0, sz, .inl (nF (nCl bt (fun _ => 0) sz)))), (q2, .inl (0, k, .inl (nF at_)))]) (Kr := [(z, .inr (10, fPR a 0 fa nk oo be ho)), (a 0, .inl (0, 740, .inl (nF bt))), (q3, .inl (0, k, .inl (nF fi)))]) [2, 3] [0, 1, 4] dX12_hooks_110 zl_RX12_300 kX12_greatestWay rfl rfl rfl rfl rfl (by decide) (show dd - 1 + 1 ≤ dd by omega) (Nat.zero_le _) (Nat.zero_le _) (Nat.le_of_ble_eq_true rfl) (s_greatestWay l (dd - 1) q q2 sz k (nCl bt (fun _ => 0) sz) at_ (by omega) (by omega) hk1.2 (fun i hi => by rw [nCl_s hi]; exact (hH i hi).1) hc) (fun r K1 hr => ?_)
      obtain ⟨rfl, rfl⟩ := hr
      refine zs_K (K' := [(z, .inr (10, fPR a 0 fa nk oo be ho)), (a 0, .inl (0, 740, .inl (nF bt))), (q, .inl (0, sz, .inl (nF (nCl bt (fun _ => 0) sz)))), (q2, .inl (0, k, .inl (nF at_))), (q3, .inl (0, k, .inl (nF fi)))]) [0, 1, 3, 4, 2] rfl (by decide) ?_
      refine zs_istore (lv' := [(9, .int (nI (pGw (nCl bt (fun _ => 0) sz) at_ k sz))), (0, .ref z), (1, .int (nI k)), (2, .int (nI 1)), (3, .ref q), (4, .ref q2), (5, .ref q3), (6, .int (nI le)), (7, .int (nI (bN true))), (8, .int (nI ch))]) dX12_hooks_113 (Nat.le_of_ble_eq_true rfl) rfl ?_
      refine zs_iload dX12_hooks_115 rfl ?_
      refine zs_iload dX12_hooks_117 rfl ?_
      refine zs_icmp_ge (tgt := 153) dX12_hooks_119 (by decide) (fun c_3 => ?_) (fun c_3 => ?_)
      · have c_3 : le ≤ (pGw (nCl bt (fun _ => 0) sz) at_ k sz) := by have hc := c_3; rw [nI_le' (by omega) (by omega)] at hc; exact hc
        refine zs_aload dX12_hooks_153 rfl rfl ?_
        refine zs_aload_n dX12_hooks_155 rfl rfl ?_
        refine zs_alen (v := (nI sz)) 2 dX12_hooks_156 rfl (by decide) rfl ?_
        refine zs_callS (M := mX12_nextChoice) (As := [.ref q2, .int (nI sz)]) (st := []) (Kc := [(q2, .inl (0, k, .inl (nF at_)))]) (Kr := [(z, .inr (10, fPR a 0 fa nk oo be ho)), (a 0, .inl (0, 740, .inl (nF bt))), (q, .inl (0, sz, .inl (nF (nCl bt (fun _ => 0) sz)))), (q3, .inl (0, k, .inl (nF fi)))]) [3] [0, 1, 2, 4] dX12_hooks_157 zl_RX12_303 kX12_nextChoice rfl rfl rfl rfl rfl (by decide) (show dd - 1 + 1 ≤ dd by omega) (Nat.zero_le _) (Nat.zero_le _) (Nat.le_of_ble_eq_true rfl) (s_nextChoice l (dd - 1) q2 k sz at_ (by omega) hk1 hc) (fun r K1 hr => ?_)
        obtain ⟨rfl, rfl⟩ := hr
        refine zs_K (K' := [(z, .inr (10, fPR a 0 fa nk oo be ho)), (a 0, .inl (0, 740, .inl (nF bt))), (q, .inl (0, sz, .inl (nF (nCl bt (fun _ => 0) sz)))), (q2, .inl (0, k, .inl (nF ((nNx at_ sz k).2)))), (q3, .inl (0, k, .inl (nF fi)))]) [0, 1, 2, 4, 3] rfl (by decide) ?_
        refine zs_istore (lv' := [(7, .int (nI (bN (nNx at_ sz k).1))), (9, .int (nI (pGw (nCl bt (fun _ => 0) sz) at_ k sz))), (0, .ref z), (1, .int (nI k)), (2, .int (nI 1)), (3, .ref q), (4, .ref q2), (5, .ref q3), (6, .int (nI le)), (8, .int (nI ch))]) dX12_hooks_160 (Nat.le_of_ble_eq_true rfl) rfl ?_
        refine zs_iinc (v := (nI (ch + 1))) (lv' := [(8, .int (nI (ch + 1))), (7, .int (nI (bN (nNx at_ sz k).1))), (9, .int (nI (pGw (nCl bt (fun _ => 0) sz) at_ k sz))), (0, .ref z), (1, .int (nI k)), (2, .int (nI 1)), (3, .ref q), (4, .ref q2), (5, .ref q3), (6, .int (nI le))]) dX12_hooks_162 rfl (nI_add _ 1) (Nat.le_of_ble_eq_true rfl) rfl ?_
        refine zs_goto (tgt := 94) dX12_hooks_165 (by decide) ?_
        refine zs_lv [3, 4, 5, 6, 7, 8, 9, 1, 0] rfl ?_
        refine ih (ch + 1) (nNx at_ sz k).2 fi le (nNx at_ sz k).1 (by omega) (nNx_ch hc) (by omega) ?_
        rw [← hW, hLp, if_neg hane]
        rw [if_neg (show ¬ (pGw (nCl bt (fun _ => 0) sz) at_ k sz) < le by omega), if_neg (show ¬ (pGw (nCl bt (fun _ => 0) sz) at_ k sz) < le by omega)]
      · have c_3 : ¬ (le ≤ (pGw (nCl bt (fun _ => 0) sz) at_ k sz)) := by have hc := c_3; rw [nI_le' (by omega) (by omega)] at hc; exact hc
        refine zs_iload dX12_hooks_122 rfl ?_
        refine zs_istore (lv' := [(6, .int (nI (pGw (nCl bt (fun _ => 0) sz) at_ k sz))), (9, .int (nI (pGw (nCl bt (fun _ => 0) sz) at_ k sz))), (0, .ref z), (1, .int (nI k)), (2, .int (nI 1)), (3, .ref q), (4, .ref q2), (5, .ref q3), (7, .int (nI (bN true))), (8, .int (nI ch))]) dX12_hooks_124 (Nat.le_of_ble_eq_true rfl) rfl ?_
        refine zs_iconst (v := nI 0) dX12_hooks_126 (by decide) ?_
        refine zs_istore (lv' := [(10, .int (nI 0)), (6, .int (nI (pGw (nCl bt (fun _ => 0) sz) at_ k sz))), (9, .int (nI (pGw (nCl bt (fun _ => 0) sz) at_ k sz))), (0, .ref z), (1, .int (nI k)), (2, .int (nI 1)), (3, .ref q), (4, .ref q2), (5, .ref q3), (7, .int (nI (bN true))), (8, .int (nI ch))]) dX12_hooks_127 (Nat.le_of_ble_eq_true rfl) rfl ?_
        refine zs_lv [3, 4, 5, 6, 7, 8, 1, 9, 10, 2, 0] rfl ?_
        refine zs_eq (K' := [(z, .inr (10, fPR a 0 fa nk oo be ho)), (a 0, .inl (0, 740, .inl (nF bt))), (q, .inl (0, sz, .inl (nF (nCl bt (fun _ => 0) sz)))), (q2, .inl (0, k, .inl (nF at_))), (q3, .inl (0, k, .inl (nF (nCl (fun i => (nCl bt (fun _ => 0) sz) (at_ i)) fi 0))))]) (by rw [nCl_0]) ?_
        refine lp_hk1 z a sz fa nk oo be ho bt k q q2 q3 (pGw (nCl bt (fun _ => 0) sz) at_ k sz) ch (bN true) at_ fi hd hsz hbt hk1 hk6 hH hc ?_ k 0 (Nat.zero_add _)
        refine zs_aload dX12_hooks_153 rfl rfl ?_
        refine zs_aload_n dX12_hooks_155 rfl rfl ?_
        refine zs_alen (v := (nI sz)) 2 dX12_hooks_156 rfl (by decide) rfl ?_
        refine zs_callS (M := mX12_nextChoice) (As := [.ref q2, .int (nI sz)]) (st := []) (Kc := [(q2, .inl (0, k, .inl (nF at_)))]) (Kr := [(z, .inr (10, fPR a 0 fa nk oo be ho)), (a 0, .inl (0, 740, .inl (nF bt))), (q, .inl (0, sz, .inl (nF (nCl bt (fun _ => 0) sz)))), (q3, .inl (0, k, .inl (nF (nCl (fun i => (nCl bt (fun _ => 0) sz) (at_ i)) fi k))))]) [3] [0, 1, 2, 4] dX12_hooks_157 zl_RX12_303 kX12_nextChoice rfl rfl rfl rfl rfl (by decide) (show dd - 1 + 1 ≤ dd by omega) (Nat.zero_le _) (Nat.zero_le _) (Nat.le_of_ble_eq_true rfl) (s_nextChoice l (dd - 1) q2 k sz at_ (by omega) hk1 hc) (fun r K1 hr => ?_)
        obtain ⟨rfl, rfl⟩ := hr
        refine zs_K (K' := [(z, .inr (10, fPR a 0 fa nk oo be ho)), (a 0, .inl (0, 740, .inl (nF bt))), (q, .inl (0, sz, .inl (nF (nCl bt (fun _ => 0) sz)))), (q2, .inl (0, k, .inl (nF ((nNx at_ sz k).2)))), (q3, .inl (0, k, .inl (nF (nCl (fun i => (nCl bt (fun _ => 0) sz) (at_ i)) fi k))))]) [0, 1, 2, 4, 3] rfl (by decide) ?_
        refine zs_istore (lv' := [(7, .int (nI (bN (nNx at_ sz k).1))), (0, .ref z), (1, .int (nI k)), (2, .int (nI 1)), (3, .ref q), (4, .ref q2), (5, .ref q3), (6, .int (nI (pGw (nCl bt (fun _ => 0) sz) at_ k sz))), (8, .int (nI ch)), (9, .int (nI (pGw (nCl bt (fun _ => 0) sz) at_ k sz)))]) dX12_hooks_160 (Nat.le_of_ble_eq_true rfl) rfl ?_
        refine zs_iinc (v := (nI (ch + 1))) (lv' := [(8, .int (nI (ch + 1))), (7, .int (nI (bN (nNx at_ sz k).1))), (0, .ref z), (1, .int (nI k)), (2, .int (nI 1)), (3, .ref q), (4, .ref q2), (5, .ref q3), (6, .int (nI (pGw (nCl bt (fun _ => 0) sz) at_ k sz))), (9, .int (nI (pGw (nCl bt (fun _ => 0) sz) at_ k sz)))]) dX12_hooks_162 rfl (nI_add _ 1) (Nat.le_of_ble_eq_true rfl) rfl ?_
        refine zs_goto (tgt := 94) dX12_hooks_165 (by decide) ?_
        refine zs_lv [2, 3, 4, 5, 6, 7, 8, 1, 0] rfl ?_
        refine ih (ch + 1) (nNx at_ sz k).2 (nCl (fun i => (nCl bt (fun _ => 0) sz) (at_ i)) fi k) (pGw (nCl bt (fun _ => 0) sz) at_ k sz) (nNx at_ sz k).1 (by omega) (nNx_ch hc) (by omega) ?_
        rw [← hW, hLp, if_neg hane]
        rw [if_pos (show (pGw (nCl bt (fun _ => 0) sz) at_ k sz) < le by omega), if_pos (show (pGw (nCl bt (fun _ => 0) sz) at_ k sz) < le by omega)]
set_option maxRecDepth 100000 in
theorem s_hooks (l : Launch) (dd : Nat) (z : Nat) (a : Nat → Nat) (sz fa nk oo be ho : Nat) (bt : Nat → Nat) (x : Int32) (hd : 3 ≤ dd) (hsz : sz ≤ 740) (hbt : ∀ j, bt j < 256) : zSp l mX12_hooks dd 3 (sz + 12) [.ref z, .int x] [(z, .inr (10, fPR a sz fa nk oo be ho)), (a 0, .inl (0, 740, .inl (nF bt)))] (fun r K' => (¬ (¬ x < nI 1 ∧ ¬ nI 6 < x ∧ sz ≤ 12 ∧ ¬ nI sz < x ∧ hTdP bt sz) ∧ r = some (.int (-1)) ∧ K' = [(z, .inr (10, fPR a 0 fa nk oo be ho)), (a 0, .inl (0, 740, .inl (nF bt)))]) ∨ (∃ k, (1 ≤ k ∧ k ≤ sz) ∧ k ≤ 6 ∧ x = nI k ∧ (¬ x < nI 1 ∧ ¬ nI 6 < x ∧ sz ≤ 12 ∧ ¬ nI sz < x ∧ hTdP bt sz) ∧ ∃ q3, r = some (.int (nI (hLp (nCl bt (fun _ => 0) sz) sz k 1000 (nCl (fun i => i) (fun _ => 0) k) (fun _ => 0) 2147483647 true).2)) ∧ K' = [(z, .inr (10, fPR a 0 fa nk oo be q3)), (a 0, .inl (0, 740, .inl (nF bt))), (q3, .inl (0, k, .inl (nF (hLp (nCl bt (fun _ => 0) sz) sz k 1000 (nCl (fun i => i) (fun _ => 0) k) (fun _ => 0) 2147483647 true).1)))])) := by
  refine zSp.of (by decide) (Nat.le_of_ble_eq_true rfl) (fun h0 => ?_)
  show zS _ 3 (sz + 12) 0 [(0, .ref z), (1, .int x)] [] [(z, .inr (10, fPR a sz fa nk oo be ho)), (a 0, .inl (0, 740, .inl (nF bt)))]
  refine zs_iload_n dX12_hooks_0 rfl ?_
  refine zs_iconst (v := nI 1) dX12_hooks_1 (by decide) ?_
  refine zs_icmp_lt (tgt := 39) dX12_hooks_2 (by decide) (fun c_1 => ?_) (fun c_1 => ?_)
  · refine zs_iconst (v := nI 0) dX12_hooks_39 (by decide) ?_
    refine zs_istore_n (lv' := [(2, .int (nI 0)), (0, .ref z), (1, .int x)]) dX12_hooks_40 (Nat.le_of_ble_eq_true rfl) rfl ?_
    refine zs_aload_n dX12_hooks_41 rfl rfl ?_
    refine zs_callV (M := mX12_takeBytes) (As := []) (st := []) (Kc := [(z, .inr (10, fPR a sz fa nk oo be ho)), (a 0, .inl (0, 740, .inl (nF bt)))]) (Kr := []) [0, 1] [] 0 dX12_hooks_42 zl_RX12_109 kX12_takeBytes rfl rfl rfl rfl rfl (by decide) rfl rfl (show dd - 1 + 1 ≤ dd by omega) (by omega) (by omega) (Nat.le_of_ble_eq_true rfl) (s_takeBytes l (dd - 1) z a sz fa nk oo be ho bt hsz) (fun r K1 hr => ?_)
    obtain ⟨q, rfl, rfl⟩ := hr
    refine zs_K (K' := [(z, .inr (10, fPR a 0 fa nk oo be ho)), (a 0, .inl (0, 740, .inl (nF bt))), (q, .inl (0, sz, .inl (nF (nCl bt (fun _ => 0) sz))))]) [0, 1, 2] rfl (by decide) ?_
    refine zs_astore_n (lv' := [(3, .ref q), (2, .int (nI 0)), (0, .ref z), (1, .int x)]) dX12_hooks_45 (Nat.le_of_ble_eq_true rfl) rfl rfl ?_
    refine zs_iload_n dX12_hooks_46 rfl ?_
    refine zs_if_ne (tgt := 52) dX12_hooks_47 (by decide) (fun c_2 => (by first | exact absurd c_2 (by decide) | exact absurd (by decide) c_2 : False).elim) (fun c_2 => ?_)
    refine zs_iconst (v := (-1)) dX12_hooks_50 (by decide) ?_
    refine zs_K (K' := [(z, .inr (10, fPR a 0 fa nk oo be ho)), (a 0, .inl (0, 740, .inl (nF bt)))]) [0, 1] rfl (by decide) ?_
    exact zs_iret dX12_hooks_51 rfl (Or.inl ⟨(fun h => h.1 c_1), rfl, rfl⟩)
  · have d2 := c_1
    refine zs_iload_n dX12_hooks_5 rfl ?_
    refine zs_bipush (v := nI 6) dX12_hooks_6 (by decide) ?_
    refine zs_icmp_gt (tgt := 39) dX12_hooks_8 (by decide) (fun c_3 => ?_) (fun c_3 => ?_)
    · refine zs_iconst (v := nI 0) dX12_hooks_39 (by decide) ?_
      refine zs_istore_n (lv' := [(2, .int (nI 0)), (0, .ref z), (1, .int x)]) dX12_hooks_40 (Nat.le_of_ble_eq_true rfl) rfl ?_
      refine zs_aload_n dX12_hooks_41 rfl rfl ?_
      refine zs_callV (M := mX12_takeBytes) (As := []) (st := []) (Kc := [(z, .inr (10, fPR a sz fa nk oo be ho)), (a 0, .inl (0, 740, .inl (nF bt)))]) (Kr := []) [0, 1] [] 0 dX12_hooks_42 zl_RX12_109 kX12_takeBytes rfl rfl rfl rfl rfl (by decide) rfl rfl (show dd - 1 + 1 ≤ dd by omega) (by omega) (by omega) (Nat.le_of_ble_eq_true rfl) (s_takeBytes l (dd - 1) z a sz fa nk oo be ho bt hsz) (fun r K1 hr => ?_)
      obtain ⟨q, rfl, rfl⟩ := hr
      refine zs_K (K' := [(z, .inr (10, fPR a 0 fa nk oo be ho)), (a 0, .inl (0, 740, .inl (nF bt))), (q, .inl (0, sz, .inl (nF (nCl bt (fun _ => 0) sz))))]) [0, 1, 2] rfl (by decide) ?_
      refine zs_astore_n (lv' := [(3, .ref q), (2, .int (nI 0)), (0, .ref z), (1, .int x)]) dX12_hooks_45 (Nat.le_of_ble_eq_true rfl) rfl rfl ?_
      refine zs_iload_n dX12_hooks_46 rfl ?_
      refine zs_if_ne (tgt := 52) dX12_hooks_47 (by decide) (fun c_4 => (by first | exact absurd c_4 (by decide) | exact absurd (by decide) c_4 : False).elim) (fun c_4 => ?_)
      refine zs_iconst (v := (-1)) dX12_hooks_50 (by decide) ?_
      refine zs_K (K' := [(z, .inr (10, fPR a 0 fa nk oo be ho)), (a 0, .inl (0, 740, .inl (nF bt)))]) [0, 1] rfl (by decide) ?_
      exact zs_iret dX12_hooks_51 rfl (Or.inl ⟨(fun h => h.2.1 c_3), rfl, rfl⟩)
    · have d8 := c_3
      refine zs_aload_n dX12_hooks_11 rfl rfl ?_
      refine zs_get 0 dX12_hooks_12 zf_RX12_88 rfl (v := .int (nI sz)) rfl ?_
      refine zs_bipush (v := nI 12) dX12_hooks_15 (by decide) ?_
      refine zs_icmp_gt (tgt := 39) dX12_hooks_17 (by decide) (fun c_5 => ?_) (fun c_5 => ?_)
      · have c_5 : 12 < sz := by have hc := c_5; rw [nI_lt' (by omega) (by omega)] at hc; exact hc
        refine zs_iconst (v := nI 0) dX12_hooks_39 (by decide) ?_
        refine zs_istore_n (lv' := [(2, .int (nI 0)), (0, .ref z), (1, .int x)]) dX12_hooks_40 (Nat.le_of_ble_eq_true rfl) rfl ?_
        refine zs_aload_n dX12_hooks_41 rfl rfl ?_
        refine zs_callV (M := mX12_takeBytes) (As := []) (st := []) (Kc := [(z, .inr (10, fPR a sz fa nk oo be ho)), (a 0, .inl (0, 740, .inl (nF bt)))]) (Kr := []) [0, 1] [] 0 dX12_hooks_42 zl_RX12_109 kX12_takeBytes rfl rfl rfl rfl rfl (by decide) rfl rfl (show dd - 1 + 1 ≤ dd by omega) (by omega) (by omega) (Nat.le_of_ble_eq_true rfl) (s_takeBytes l (dd - 1) z a sz fa nk oo be ho bt hsz) (fun r K1 hr => ?_)
        obtain ⟨q, rfl, rfl⟩ := hr
        refine zs_K (K' := [(z, .inr (10, fPR a 0 fa nk oo be ho)), (a 0, .inl (0, 740, .inl (nF bt))), (q, .inl (0, sz, .inl (nF (nCl bt (fun _ => 0) sz))))]) [0, 1, 2] rfl (by decide) ?_
        refine zs_astore_n (lv' := [(3, .ref q), (2, .int (nI 0)), (0, .ref z), (1, .int x)]) dX12_hooks_45 (Nat.le_of_ble_eq_true rfl) rfl rfl ?_
        refine zs_iload_n dX12_hooks_46 rfl ?_
        refine zs_if_ne (tgt := 52) dX12_hooks_47 (by decide) (fun c_6 => (by first | exact absurd c_6 (by decide) | exact absurd (by decide) c_6 : False).elim) (fun c_6 => ?_)
        refine zs_iconst (v := (-1)) dX12_hooks_50 (by decide) ?_
        refine zs_K (K' := [(z, .inr (10, fPR a 0 fa nk oo be ho)), (a 0, .inl (0, 740, .inl (nF bt)))]) [0, 1] rfl (by decide) ?_
        exact zs_iret dX12_hooks_51 rfl (Or.inl ⟨(fun h => absurd h.2.2.1 (by omega)), rfl, rfl⟩)
      · have c_5 : ¬ (12 < sz) := by have hc := c_5; rw [nI_lt' (by omega) (by omega)] at hc; exact hc
        have d17 := c_5
        refine zs_iload_n dX12_hooks_20 rfl ?_
        refine zs_aload_n dX12_hooks_21 rfl rfl ?_
        refine zs_get 0 dX12_hooks_22 zf_RX12_88 rfl (v := .int (nI sz)) rfl ?_
        refine zs_icmp_gt (tgt := 39) dX12_hooks_25 (by decide) (fun c_7 => ?_) (fun c_7 => ?_)
        · refine zs_iconst (v := nI 0) dX12_hooks_39 (by decide) ?_
          refine zs_istore_n (lv' := [(2, .int (nI 0)), (0, .ref z), (1, .int x)]) dX12_hooks_40 (Nat.le_of_ble_eq_true rfl) rfl ?_
          refine zs_aload_n dX12_hooks_41 rfl rfl ?_
          refine zs_callV (M := mX12_takeBytes) (As := []) (st := []) (Kc := [(z, .inr (10, fPR a sz fa nk oo be ho)), (a 0, .inl (0, 740, .inl (nF bt)))]) (Kr := []) [0, 1] [] 0 dX12_hooks_42 zl_RX12_109 kX12_takeBytes rfl rfl rfl rfl rfl (by decide) rfl rfl (show dd - 1 + 1 ≤ dd by omega) (by omega) (by omega) (Nat.le_of_ble_eq_true rfl) (s_takeBytes l (dd - 1) z a sz fa nk oo be ho bt hsz) (fun r K1 hr => ?_)
          obtain ⟨q, rfl, rfl⟩ := hr
          refine zs_K (K' := [(z, .inr (10, fPR a 0 fa nk oo be ho)), (a 0, .inl (0, 740, .inl (nF bt))), (q, .inl (0, sz, .inl (nF (nCl bt (fun _ => 0) sz))))]) [0, 1, 2] rfl (by decide) ?_
          refine zs_astore_n (lv' := [(3, .ref q), (2, .int (nI 0)), (0, .ref z), (1, .int x)]) dX12_hooks_45 (Nat.le_of_ble_eq_true rfl) rfl rfl ?_
          refine zs_iload_n dX12_hooks_46 rfl ?_
          refine zs_if_ne (tgt := 52) dX12_hooks_47 (by decide) (fun c_8 => (by first | exact absurd c_8 (by decide) | exact absurd (by decide) c_8 : False).elim) (fun c_8 => ?_)
          refine zs_iconst (v := (-1)) dX12_hooks_50 (by decide) ?_
          refine zs_K (K' := [(z, .inr (10, fPR a 0 fa nk oo be ho)), (a 0, .inl (0, 740, .inl (nF bt)))]) [0, 1] rfl (by decide) ?_
          exact zs_iret dX12_hooks_51 rfl (Or.inl ⟨(fun h => h.2.2.2.1 c_7), rfl, rfl⟩)
        · have d25 := c_7
          refine zs_aload_n dX12_hooks_28 rfl rfl ?_
          have hbh := bN_1 (hTd bt sz)
          refine zs_callV (M := mX12_housesTold) (As := []) (st := []) (Kc := [(z, .inr (10, fPR a sz fa nk oo be ho)), (a 0, .inl (0, 740, .inl (nF bt)))]) (Kr := []) [0, 1] [] 0 dX12_hooks_29 zl_RX12_296 kX12_housesTold rfl rfl rfl rfl rfl (by decide) rfl rfl (show dd - 1 + 1 ≤ dd by omega) (Nat.zero_le _) (Nat.zero_le _) (Nat.le_of_ble_eq_true rfl) (s_housesTold l (dd - 1) z a sz fa nk oo be ho bt hsz hbt) (fun r K1 hr => ?_)
          obtain ⟨rfl, rfl⟩ := hr
          refine zs_K (K' := [(z, .inr (10, fPR a sz fa nk oo be ho)), (a 0, .inl (0, 740, .inl (nF bt)))]) [0, 1] rfl (by decide) ?_
          refine zs_if_eq (tgt := 39) dX12_hooks_32 (by decide) (fun c_9 => ?_) (fun c_9 => ?_)
          · have c_9 : (bN (hTd bt sz)) = 0 := by have hc := c_9; rw [show (0 : Int32) = nI 0 from rfl] at hc; rw [nI_eq' (by omega) (by omega)] at hc; exact hc
            refine zs_iconst (v := nI 0) dX12_hooks_39 (by decide) ?_
            refine zs_istore_n (lv' := [(2, .int (nI 0)), (0, .ref z), (1, .int x)]) dX12_hooks_40 (Nat.le_of_ble_eq_true rfl) rfl ?_
            refine zs_aload_n dX12_hooks_41 rfl rfl ?_
            refine zs_callV (M := mX12_takeBytes) (As := []) (st := []) (Kc := [(z, .inr (10, fPR a sz fa nk oo be ho)), (a 0, .inl (0, 740, .inl (nF bt)))]) (Kr := []) [0, 1] [] 0 dX12_hooks_42 zl_RX12_109 kX12_takeBytes rfl rfl rfl rfl rfl (by decide) rfl rfl (show dd - 1 + 1 ≤ dd by omega) (by omega) (by omega) (Nat.le_of_ble_eq_true rfl) (s_takeBytes l (dd - 1) z a sz fa nk oo be ho bt hsz) (fun r K1 hr => ?_)
            obtain ⟨q, rfl, rfl⟩ := hr
            refine zs_K (K' := [(z, .inr (10, fPR a 0 fa nk oo be ho)), (a 0, .inl (0, 740, .inl (nF bt))), (q, .inl (0, sz, .inl (nF (nCl bt (fun _ => 0) sz))))]) [0, 1, 2] rfl (by decide) ?_
            refine zs_astore_n (lv' := [(3, .ref q), (2, .int (nI 0)), (0, .ref z), (1, .int x)]) dX12_hooks_45 (Nat.le_of_ble_eq_true rfl) rfl rfl ?_
            refine zs_iload_n dX12_hooks_46 rfl ?_
            refine zs_if_ne (tgt := 52) dX12_hooks_47 (by decide) (fun c_10 => (by first | exact absurd c_10 (by decide) | exact absurd (by decide) c_10 : False).elim) (fun c_10 => ?_)
            refine zs_iconst (v := (-1)) dX12_hooks_50 (by decide) ?_
            refine zs_K (K' := [(z, .inr (10, fPR a 0 fa nk oo be ho)), (a 0, .inl (0, 740, .inl (nF bt)))]) [0, 1] rfl (by decide) ?_
            exact zs_iret dX12_hooks_51 rfl (Or.inl ⟨(fun h => bN_f0 c_9 (hTd_y h.2.2.2.2)), rfl, rfl⟩)
          · have c_9 : ¬ ((bN (hTd bt sz)) = 0) := by have hc := c_9; rw [show (0 : Int32) = nI 0 from rfl] at hc; rw [nI_eq' (by omega) (by omega)] at hc; exact hc
            have d32 := c_9
            refine zs_iconst (v := nI 1) dX12_hooks_35 (by decide) ?_
            refine zs_goto (tgt := 40) dX12_hooks_36 (by decide) ?_
            refine zs_istore_n (lv' := [(2, .int (nI 1)), (0, .ref z), (1, .int x)]) dX12_hooks_40 (Nat.le_of_ble_eq_true rfl) rfl ?_
            refine zs_aload_n dX12_hooks_41 rfl rfl ?_
            refine zs_callV (M := mX12_takeBytes) (As := []) (st := []) (Kc := [(z, .inr (10, fPR a sz fa nk oo be ho)), (a 0, .inl (0, 740, .inl (nF bt)))]) (Kr := []) [0, 1] [] 0 dX12_hooks_42 zl_RX12_109 kX12_takeBytes rfl rfl rfl rfl rfl (by decide) rfl rfl (show dd - 1 + 1 ≤ dd by omega) (by omega) (by omega) (Nat.le_of_ble_eq_true rfl) (s_takeBytes l (dd - 1) z a sz fa nk oo be ho bt hsz) (fun r K1 hr => ?_)
            obtain ⟨q, rfl, rfl⟩ := hr
            refine zs_K (K' := [(z, .inr (10, fPR a 0 fa nk oo be ho)), (a 0, .inl (0, 740, .inl (nF bt))), (q, .inl (0, sz, .inl (nF (nCl bt (fun _ => 0) sz))))]) [0, 1, 2] rfl (by decide) ?_
            refine zs_astore_n (lv' := [(3, .ref q), (2, .int (nI 1)), (0, .ref z), (1, .int x)]) dX12_hooks_45 (Nat.le_of_ble_eq_true rfl) rfl rfl ?_
            refine zs_iload_n dX12_hooks_46 rfl ?_
            refine zs_if_ne (tgt := 52) dX12_hooks_47 (by decide) (fun c_11 => ?_) (fun c_11 => (by first | exact absurd c_11 (by decide) | exact absurd (by decide) c_11 : False).elim)
            have hcond : (¬ x < nI 1 ∧ ¬ nI 6 < x ∧ sz ≤ 12 ∧ ¬ nI sz < x ∧ hTdP bt sz) := ⟨d2, d8, by omega, d25, of_decide_eq_true (bN_e d32)⟩
            obtain ⟨k, hk, rfl⟩ := zi_nn (fun h => hcond.1 (Int32.lt_trans h (by decide)))
            have hk1 : 1 ≤ k ∧ k ≤ sz := ⟨by have h := hcond.1; rw [nI_lt' (by omega) (by omega)] at h; omega, by have h := hcond.2.2.2.1; rw [nI_lt' (by omega) (by omega)] at h; omega⟩
            have hk6 : k ≤ 6 := by have h := hcond.2.1; rw [nI_lt' (by omega) (by omega)] at h; omega
            have hH := hcond.2.2.2.2
            refine zs_iload_n dX12_hooks_52 rfl ?_
            refine zs_newa_int (N := k) dX12_hooks_53 (fun h => absurd h (by rw [show (0 : Int32) = nI 0 from rfl, nI_lt' (by omega) (by omega)]; omega)) (nI_c (by omega)) (by omega) (by first | omega | (simp only [List.length_cons, List.length_nil]; omega)) (by first | omega | (simp only [List.length_cons, List.length_nil]; omega)) (fun q2 => ?_)
            show zS _ _ _ _ _ _ [(z, .inr (10, fPR a 0 fa nk oo be ho)), (a 0, .inl (0, 740, .inl (nF bt))), (q, .inl (0, sz, .inl (nF (nCl bt (fun _ => 0) sz)))), (q2, .inl (0, k, .inl (fun _ => 0)))]
            refine zs_astore (lv' := [(4, .ref q2), (3, .ref q), (2, .int (nI 1)), (0, .ref z), (1, .int (nI k))]) dX12_hooks_55 (Nat.le_of_ble_eq_true rfl) rfl rfl ?_
            refine zs_iconst (v := nI 0) dX12_hooks_57 (by decide) ?_
            refine zs_istore (lv' := [(5, .int (nI 0)), (4, .ref q2), (3, .ref q), (2, .int (nI 1)), (0, .ref z), (1, .int (nI k))]) dX12_hooks_58 (Nat.le_of_ble_eq_true rfl) rfl ?_
            refine zs_kc (kc' := 1) (ks' := 6) (by omega) (by omega) ?_
            refine zs_lv [4, 5, 3, 2, 1, 0] rfl ?_
            refine zs_eq (K' := [(z, .inr (10, fPR a 0 fa nk oo be ho)), (a 0, .inl (0, 740, .inl (nF bt))), (q, .inl (0, sz, .inl (nF (nCl bt (fun _ => 0) sz)))), (q2, .inl (0, k, .inl (nF (nCl (fun i => i) (fun _ => 0) 0))))]) (by rw [nCl_0]; rfl) ?_
            refine lp_hk0 z a sz fa nk oo be ho bt k q q2 hd (by omega) hbt hk1 hk6 hH ?_ k 0 (Nat.zero_add _)
            refine zs_iload_n dX12_hooks_79 rfl ?_
            refine zs_newa_int (N := k) dX12_hooks_80 (fun h => absurd h (by rw [show (0 : Int32) = nI 0 from rfl, nI_lt' (by omega) (by omega)]; omega)) (nI_c (by omega)) (by omega) (by first | omega | (simp only [List.length_cons, List.length_nil]; omega)) (by first | omega | (simp only [List.length_cons, List.length_nil]; omega)) (fun q3 => ?_)
            show zS _ _ _ _ _ _ [(z, .inr (10, fPR a 0 fa nk oo be ho)), (a 0, .inl (0, 740, .inl (nF bt))), (q, .inl (0, sz, .inl (nF (nCl bt (fun _ => 0) sz)))), (q2, .inl (0, k, .inl (nF (nCl (fun i => i) (fun _ => 0) k)))), (q3, .inl (0, k, .inl (fun _ => 0)))]
            refine zs_astore (lv' := [(5, .ref q3), (0, .ref z), (1, .int (nI k)), (2, .int (nI 1)), (3, .ref q), (4, .ref q2)]) dX12_hooks_82 (Nat.le_of_ble_eq_true rfl) rfl rfl ?_
            refine zs_ldc (v := 2147483647) dX12_hooks_84 zk_RX12_254 ?_
            refine zs_as (y := nI 2147483647) rfl ?_
            refine zs_istore (lv' := [(6, .int (nI 2147483647)), (5, .ref q3), (0, .ref z), (1, .int (nI k)), (2, .int (nI 1)), (3, .ref q), (4, .ref q2)]) dX12_hooks_86 (Nat.le_of_ble_eq_true rfl) rfl ?_
            refine zs_iconst (v := nI 1) dX12_hooks_88 (by decide) ?_
            refine zs_istore (lv' := [(7, .int (nI 1)), (6, .int (nI 2147483647)), (5, .ref q3), (0, .ref z), (1, .int (nI k)), (2, .int (nI 1)), (3, .ref q), (4, .ref q2)]) dX12_hooks_89 (Nat.le_of_ble_eq_true rfl) rfl ?_
            refine zs_iconst (v := nI 0) dX12_hooks_91 (by decide) ?_
            refine zs_istore (lv' := [(8, .int (nI 0)), (7, .int (nI 1)), (6, .int (nI 2147483647)), (5, .ref q3), (0, .ref z), (1, .int (nI k)), (2, .int (nI 1)), (3, .ref q), (4, .ref q2)]) dX12_hooks_92 (Nat.le_of_ble_eq_true rfl) rfl ?_
            refine zs_kc (Nat.zero_le _) (Nat.zero_le _) (?_ : zS _ 0 0 _ _ _ _)
            refine zs_lv [4, 5, 6, 7, 8, 3, 2, 1, 0] rfl ?_
            exact lp_hk z a sz fa nk oo be ho bt k q q2 q3 hd (by omega) hbt hk1 hk6 hH (hLp (nCl bt (fun _ => 0) sz) sz k 1000 (nCl (fun i => i) (fun _ => 0) k) (fun _ => 0) 2147483647 true) (fun r K1 h => Or.inr ⟨k, hk1, hk6, rfl, hcond, h⟩) 1000 0 (nCl (fun i => i) (fun _ => 0) k) (fun _ => 0) 2147483647 true rfl (fun i hi => by rw [nCl_s hi]; omega) (Nat.le_refl _) rfl
