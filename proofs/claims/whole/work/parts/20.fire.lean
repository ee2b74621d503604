/-! ===== PailRow.Fire ===== -/
def fFire (t : Nat) (sc : Nat → Int32) : List Value := [.int (sc 0), .int (sc 1), .int (sc 2), .int (sc 3), .ref (t + 1), .ref (t + 2), .ref (t + 3), .ref (t + 4), .ref (t + 5), .int (sc 9), .int (sc 10), .int (sc 11)]
abbrev kFire (t : Nat) (sc : Nat → Int32) (fu we bu he se : Nat → Int32) : zK := [(t, .inr (1, fFire t sc)), (t + 1, .inl (0, 64, .inl fu)), (t + 2, .inl (0, 64, .inl we)), (t + 3, .inl (1, 64, .inl bu)), (t + 4, .inl (0, 64, .inl he)), (t + 5, .inl (0, 60, .inl se))]
/-- a place, or none: -1 -/
def eO (r : Option Nat) : Int32 := match r with
  | none => -1
  | some k => nI k
theorem eO_none : eO none = -1 := rfl
theorem eO_some (k : Nat) : eO (some k) = nI k := rfl
theorem nI_ne1 {k : Nat} (h : k < 2147483648) : ¬ nI k = -1 := by
  intro q
  rw [zi_eq, nI_t h] at q
  have : (-1 : Int32).toInt = -1 := rfl
  omega
theorem eO_ne {r : Option Nat} (h : ¬ eO r = -1) : ∃ k, r = some k := by
  cases r with
  | none => exact absurd rfl h
  | some k => exact ⟨k, rfl⟩
theorem eO_nn {r : Option Nat} {x : Int32} (h : x = eO r) (hx : x = -1) (hl : ∀ k, r = some k → k < 2147483648) : r = none := by
  cases r with
  | none => rfl
  | some k => exact absurd (by rw [← hx, h]; rfl) (nI_ne1 (hl k rfl))
/-- the first place of the most (fullest), of the least (leanest) among those that burn -/
def pBst (bt : Int32 → Int32 → Bool) (fu bu : Nat → Int32) : Nat → Option Nat
  | 0 => none
  | k + 1 => if bu k = 0 then pBst bt fu bu k else match pBst bt fu bu k with
    | none => some k
    | some j => if bt (fu k) (fu j) = true then some k else some j
theorem pBst_lt {bt : Int32 → Int32 → Bool} {fu bu : Nat → Int32} : ∀ {n j : Nat}, pBst bt fu bu n = some j → j < n
  | 0, j, h => by cases h
  | k + 1, j, h => by
    simp only [pBst] at h
    split at h
    · exact Nat.lt_succ_of_lt (pBst_lt h)
    · split at h
      · cases h; exact Nat.lt_succ_self _
      · rename_i i hi
        split at h
        · cases h; exact Nat.lt_succ_self _
        · cases h; exact Nat.lt_succ_of_lt (pBst_lt hi)
theorem pBst_0 {bt : Int32 → Int32 → Bool} {fu bu : Nat → Int32} {k : Nat} (h : bu k = 0) : pBst bt fu bu (k + 1) = pBst bt fu bu k := by simp only [pBst, if_pos h]
theorem pBst_n {bt : Int32 → Int32 → Bool} {fu bu : Nat → Int32} {k : Nat} (h : ¬ bu k = 0) (h2 : pBst bt fu bu k = none) : pBst bt fu bu (k + 1) = some k := by simp only [pBst, if_neg h, h2]
theorem pBst_y {bt : Int32 → Int32 → Bool} {fu bu : Nat → Int32} {k j : Nat} (h : ¬ bu k = 0) (h2 : pBst bt fu bu k = some j) (h3 : bt (fu k) (fu j) = true) : pBst bt fu bu (k + 1) = some k := by simp only [pBst, if_neg h, h2, if_pos h3]
theorem pBst_s {bt : Int32 → Int32 → Bool} {fu bu : Nat → Int32} {k j : Nat} (h : ¬ bu k = 0) (h2 : pBst bt fu bu k = some j) (h3 : ¬ bt (fu k) (fu j) = true) : pBst bt fu bu (k + 1) = some j := by simp only [pBst, if_neg h, h2, if_neg h3]
abbrev bMore (x y : Int32) : Bool := decide (y < x)
abbrev bLess (x y : Int32) : Bool := decide (x < y)
theorem dX2_windTo_0 : decode cX2_windTo 0 = .ok (.aload_n 0, 1) := by decide +kernel
theorem dX2_windTo_1 : decode cX2_windTo 1 = .ok (.getfield 48, 3) := by decide +kernel
theorem dX2_windTo_4 : decode cX2_windTo 4 = .ok (.iload_n 1, 1) := by decide +kernel
theorem dX2_windTo_5 : decode cX2_windTo 5 = .ok (.if_icmp .ne 5, 3) := by decide +kernel
theorem dX2_windTo_8 : decode cX2_windTo 8 = .ok (.iconst 2, 1) := by decide +kernel
theorem dX2_windTo_9 : decode cX2_windTo 9 = .ok (.ireturn, 1) := by decide +kernel
theorem dX2_windTo_10 : decode cX2_windTo 10 = .ok (.aload_n 0, 1) := by decide +kernel
theorem dX2_windTo_11 : decode cX2_windTo 11 = .ok (.getfield 48, 3) := by decide +kernel
theorem dX2_windTo_14 : decode cX2_windTo 14 = .ok (.iload_n 1, 1) := by decide +kernel
theorem dX2_windTo_15 : decode cX2_windTo 15 = .ok (.iconst 2, 1) := by decide +kernel
theorem dX2_windTo_16 : decode cX2_windTo 16 = .ok (.iadd, 1) := by decide +kernel
theorem dX2_windTo_17 : decode cX2_windTo 17 = .ok (.iconst 4, 1) := by decide +kernel
theorem dX2_windTo_18 : decode cX2_windTo 18 = .ok (.irem, 1) := by decide +kernel
theorem dX2_windTo_19 : decode cX2_windTo 19 = .ok (.if_icmp .ne 7, 3) := by decide +kernel
theorem dX2_windTo_22 : decode cX2_windTo 22 = .ok (.iconst 0, 1) := by decide +kernel
theorem dX2_windTo_23 : decode cX2_windTo 23 = .ok (.goto 4, 3) := by decide +kernel
theorem dX2_windTo_26 : decode cX2_windTo 26 = .ok (.iconst 1, 1) := by decide +kernel
theorem dX2_windTo_27 : decode cX2_windTo 27 = .ok (.ireturn, 1) := by decide +kernel
def pWind (w d : Int32) : Int32 := if w = d then 2 else if w = (d + 2) - (d + 2) / 4 * 4 then 0 else 1
set_option maxRecDepth 100000 in
theorem s_windTo (l : Launch) (dd : Nat) (t : Nat) (sc : Nat → Int32) (d : Int32) : zSp l mX2_windTo dd 0 0 [.ref t, .int d] [(t, .inr (1, fFire t sc))] (fun r K' => r = some (.int (pWind (sc 3) d)) ∧ K' = [(t, .inr (1, fFire t sc))]) := by
  refine zSp.of (by decide) (Nat.le_of_ble_eq_true rfl) (fun h0 => ?_)
  show zS _ 0 0 0 [(0, .ref t), (1, .int d)] [] [(t, .inr (1, fFire t sc))]
  refine zs_aload_n dX2_windTo_0 rfl rfl ?_
  refine zs_get 0 dX2_windTo_1 zf_RX2_48 rfl (v := .int (sc 3)) rfl ?_
  refine zs_iload_n dX2_windTo_4 rfl ?_
  refine zs_icmp_ne (tgt := 10) dX2_windTo_5 (by decide) (fun c_1 => ?_) (fun c_1 => ?_)
  · refine zs_aload_n dX2_windTo_10 rfl rfl ?_
    refine zs_get 0 dX2_windTo_11 zf_RX2_48 rfl (v := .int (sc 3)) rfl ?_
    refine zs_iload_n dX2_windTo_14 rfl ?_
    refine zs_iconst (v := 2) dX2_windTo_15 (by decide) ?_
    refine zs_iadd dX2_windTo_16 ?_
    refine zs_iconst (v := 4) dX2_windTo_17 (by decide) ?_
    refine zs_irem dX2_windTo_18 (by decide) ?_
    refine zs_icmp_ne (tgt := 26) dX2_windTo_19 (by decide) (fun c_2 => ?_) (fun c_2 => ?_)
    · refine zs_iconst (v := 1) dX2_windTo_26 (by decide) ?_
      exact zs_iret dX2_windTo_27 rfl ⟨by simp_all [pWind], rfl⟩
    · refine zs_iconst (v := 0) dX2_windTo_22 (by decide) ?_
      refine zs_goto (tgt := 27) dX2_windTo_23 (by decide) ?_
      exact zs_iret dX2_windTo_27 rfl ⟨by simp_all [pWind], rfl⟩
  · refine zs_iconst (v := 2) dX2_windTo_8 (by decide) ?_
    exact zs_iret dX2_windTo_9 rfl ⟨by simp_all [pWind], rfl⟩
theorem dX2_fullest_0 : decode cX2_fullest 0 = .ok (.iconst (-1), 1) := by decide +kernel
theorem dX2_fullest_1 : decode cX2_fullest 1 = .ok (.istore_n 1, 1) := by decide +kernel
theorem dX2_fullest_2 : decode cX2_fullest 2 = .ok (.iconst 0, 1) := by decide +kernel
theorem dX2_fullest_3 : decode cX2_fullest 3 = .ok (.istore_n 2, 1) := by decide +kernel
theorem dX2_fullest_4 : decode cX2_fullest 4 = .ok (.iload_n 2, 1) := by decide +kernel
theorem dX2_fullest_5 : decode cX2_fullest 5 = .ok (.aload_n 0, 1) := by decide +kernel
theorem dX2_fullest_6 : decode cX2_fullest 6 = .ok (.getfield 42, 3) := by decide +kernel
theorem dX2_fullest_9 : decode cX2_fullest 9 = .ok (.if_icmp .ge 40, 3) := by decide +kernel
theorem dX2_fullest_12 : decode cX2_fullest 12 = .ok (.aload_n 0, 1) := by decide +kernel
theorem dX2_fullest_13 : decode cX2_fullest 13 = .ok (.getfield 18, 3) := by decide +kernel
theorem dX2_fullest_16 : decode cX2_fullest 16 = .ok (.iload_n 2, 1) := by decide +kernel
theorem dX2_fullest_17 : decode cX2_fullest 17 = .ok (.baload, 1) := by decide +kernel
theorem dX2_fullest_18 : decode cX2_fullest 18 = .ok (.ifCond .eq 25, 3) := by decide +kernel
theorem dX2_fullest_21 : decode cX2_fullest 21 = .ok (.iload_n 1, 1) := by decide +kernel
theorem dX2_fullest_22 : decode cX2_fullest 22 = .ok (.iconst (-1), 1) := by decide +kernel
theorem dX2_fullest_23 : decode cX2_fullest 23 = .ok (.if_icmp .eq 18, 3) := by decide +kernel
theorem dX2_fullest_26 : decode cX2_fullest 26 = .ok (.aload_n 0, 1) := by decide +kernel
theorem dX2_fullest_27 : decode cX2_fullest 27 = .ok (.getfield 9, 3) := by decide +kernel
theorem dX2_fullest_30 : decode cX2_fullest 30 = .ok (.iload_n 2, 1) := by decide +kernel
theorem dX2_fullest_31 : decode cX2_fullest 31 = .ok (.iaload, 1) := by decide +kernel
theorem dX2_fullest_32 : decode cX2_fullest 32 = .ok (.aload_n 0, 1) := by decide +kernel
theorem dX2_fullest_33 : decode cX2_fullest 33 = .ok (.getfield 9, 3) := by decide +kernel
theorem dX2_fullest_36 : decode cX2_fullest 36 = .ok (.iload_n 1, 1) := by decide +kernel
theorem dX2_fullest_37 : decode cX2_fullest 37 = .ok (.iaload, 1) := by decide +kernel
theorem dX2_fullest_38 : decode cX2_fullest 38 = .ok (.if_icmp .le 5, 3) := by decide +kernel
theorem dX2_fullest_41 : decode cX2_fullest 41 = .ok (.iload_n 2, 1) := by decide +kernel
theorem dX2_fullest_42 : decode cX2_fullest 42 = .ok (.istore_n 1, 1) := by decide +kernel
theorem dX2_fullest_43 : decode cX2_fullest 43 = .ok (.iinc 2 1, 3) := by decide +kernel
theorem dX2_fullest_46 : decode cX2_fullest 46 = .ok (.goto (-42), 3) := by decide +kernel
theorem dX2_fullest_49 : decode cX2_fullest 49 = .ok (.iload_n 1, 1) := by decide +kernel
theorem dX2_fullest_50 : decode cX2_fullest 50 = .ok (.ireturn, 1) := by decide +kernel
set_option maxRecDepth 100000 in
theorem lp_fullest {l : Launch} {dd : Nat} {Po : zPo} {K0 : zK} {h0 : List va_E} {Xo : zK → Prop} {Gc : zG → Prop} (t n : Nat) (sc : Nat → Int32) (fu we bu he se : Nat → Int32) (hn : n ≤ 64) (hsc : sc 2 = nI n)
    (hk : ∀ found, found = eO (pBst bMore fu bu n) → zS (l, mX2_fullest, dd, Po, K0, h0, Xo, Gc) 0 0 49 [(0, .ref t), (1, .int found), (2, .int (nI n))] [] (kFire t sc fu we bu he se)) :
    ∀ (m i : Nat) (found : Int32), i + m = n → found = eO (pBst bMore fu bu i) → zS (l, mX2_fullest, dd, Po, K0, h0, Xo, Gc) 0 0 4 [(0, .ref t), (1, .int found), (2, .int (nI i))] [] (kFire t sc fu we bu he se) := by
  intro m
  induction m with
  | zero =>
    intro i found hi hf
    have hin : i = n := by omega
    subst hin
    refine zs_iload_n dX2_fullest_4 rfl ?_
    refine zs_aload_n dX2_fullest_5 rfl rfl ?_
    refine zs_get 0 dX2_fullest_6 zf_RX2_42 rfl (v := .int (sc 2)) rfl ?_
    refine zs_icmp_ge (tgt := 49) dX2_fullest_9 (by decide) (fun c => ?_) (fun c => ?_)
    · exact hk found hf
    · exact absurd (by rw [hsc]; exact Int32.le_refl _) c
  | succ m ih0 =>
    intro i found hi hf
    have hil : i < n := by omega
    have ih : ∀ (i' : Nat) (found' : Int32), i' + m = n → found' = eO (pBst bMore fu bu i') → zS (l, mX2_fullest, dd, Po, K0, h0, Xo, Gc) 0 0 4 [(0, .ref t), (1, .int found'), (2, .int (nI i'))] [] (kFire t sc fu we bu he se) := ih0
    have hin : vp_in (nI i) 64 := vp_in_nI (by omega) (by omega)
    have hlt : ∀ k, pBst bMore fu bu i = some k → k < 2147483648 := fun k hk => by have := pBst_lt hk; omega
    refine zs_iload_n dX2_fullest_4 rfl ?_
    refine zs_aload_n dX2_fullest_5 rfl rfl ?_
    refine zs_get 0 dX2_fullest_6 zf_RX2_42 rfl (v := .int (sc 2)) rfl ?_
    refine zs_icmp_ge (tgt := 49) dX2_fullest_9 (by decide) (fun c_1 => (nI_ge hil (by omega) (hsc ▸ c_1) : False).elim) (fun c_1 => ?_)
    refine zs_aload_n dX2_fullest_12 rfl rfl ?_
    refine zs_get 0 dX2_fullest_13 zf_RX2_18 rfl (v := .ref (t + 3)) rfl ?_
    refine zs_iload_n dX2_fullest_16 rfl ?_
    refine zs_zald 3 dX2_fullest_17 rfl hin ?_
    refine zs_as (y := bu i) (by rw [nI_c (by omega)]) ?_
    refine zs_if_eq (tgt := 43) dX2_fullest_18 (by decide) (fun c_2 => ?_) (fun c_2 => ?_)
    · refine zs_iinc (v := (nI (i + 1))) (lv' := [(2, .int (nI (i + 1))), (0, .ref t), (1, .int found)]) dX2_fullest_43 rfl (nI_s1 i) (Nat.le_of_ble_eq_true rfl) rfl ?_
      refine zs_goto (tgt := 4) dX2_fullest_46 (by decide) ?_
      refine zs_lv [1, 2, 0] rfl ?_
      refine ih (i + 1) _ (by omega) ?_
      first
        | (rw [pBst_0 (by assumption)]; exact hf)
        | (rw [pBst_y (by assumption) hj (by rw [decide_eq_true_iff]; grind)]; rfl)
        | (rw [pBst_s (by assumption) hj (by rw [decide_eq_true_iff]; grind)]; exact hj2)
        | (rw [pBst_n (by assumption) (eO_nn hf (by assumption) hlt)]; rfl)
    · refine zs_iload_n dX2_fullest_21 rfl ?_
      refine zs_iconst (v := (-1)) dX2_fullest_22 (by decide) ?_
      refine zs_icmp_eq (tgt := 41) dX2_fullest_23 (by decide) (fun c_3 => ?_) (fun c_3 => ?_)
      · refine zs_iload_n dX2_fullest_41 rfl ?_
        refine zs_istore_n (lv' := [(1, .int (nI i)), (0, .ref t), (2, .int (nI i))]) dX2_fullest_42 (Nat.le_of_ble_eq_true rfl) rfl ?_
        refine zs_iinc (v := (nI (i + 1))) (lv' := [(2, .int (nI (i + 1))), (1, .int (nI i)), (0, .ref t)]) dX2_fullest_43 rfl (nI_s1 i) (Nat.le_of_ble_eq_true rfl) rfl ?_
        refine zs_goto (tgt := 4) dX2_fullest_46 (by decide) ?_
        refine zs_lv [2, 1, 0] rfl ?_
        refine ih (i + 1) _ (by omega) ?_
        first
          | (rw [pBst_0 (by assumption)]; exact hf)
          | (rw [pBst_y (by assumption) hj (by rw [decide_eq_true_iff]; grind)]; rfl)
          | (rw [pBst_s (by assumption) hj (by rw [decide_eq_true_iff]; grind)]; exact hj2)
          | (rw [pBst_n (by assumption) (eO_nn hf (by assumption) hlt)]; rfl)
      · obtain ⟨j, hj⟩ := eO_ne (by rw [← hf]; assumption)
        have hjl := pBst_lt hj
        have hj2 : found = nI j := by rw [hf, hj]; rfl
        have hfi : vp_in found 64 := by rw [hj2]; exact vp_in_nI (by omega) (by omega)
        refine zs_aload_n dX2_fullest_26 rfl rfl ?_
        refine zs_get 0 dX2_fullest_27 zf_RX2_9 rfl (v := .ref (t + 1)) rfl ?_
        refine zs_iload_n dX2_fullest_30 rfl ?_
        refine zs_iald 1 dX2_fullest_31 rfl hin ?_
        refine zs_as (y := fu i) (by rw [nI_c (by omega)]) ?_
        refine zs_aload_n dX2_fullest_32 rfl rfl ?_
        refine zs_get 0 dX2_fullest_33 zf_RX2_9 rfl (v := .ref (t + 1)) rfl ?_
        refine zs_iload_n dX2_fullest_36 rfl ?_
        refine zs_iald 1 dX2_fullest_37 rfl hfi ?_
        refine zs_as (y := fu j) (by rw [hj2, nI_c (by omega)]) ?_
        refine zs_icmp_le (tgt := 43) dX2_fullest_38 (by decide) (fun c_4 => ?_) (fun c_4 => ?_)
        · refine zs_iinc (v := (nI (i + 1))) (lv' := [(2, .int (nI (i + 1))), (0, .ref t), (1, .int found)]) dX2_fullest_43 rfl (nI_s1 i) (Nat.le_of_ble_eq_true rfl) rfl ?_
          refine zs_goto (tgt := 4) dX2_fullest_46 (by decide) ?_
          refine zs_lv [1, 2, 0] rfl ?_
          refine ih (i + 1) _ (by omega) ?_
          first
            | (rw [pBst_0 (by assumption)]; exact hf)
            | (rw [pBst_y (by assumption) hj (by rw [decide_eq_true_iff]; grind)]; rfl)
            | (rw [pBst_s (by assumption) hj (by rw [decide_eq_true_iff]; grind)]; exact hj2)
            | (rw [pBst_n (by assumption) (eO_nn hf (by assumption) hlt)]; rfl)
        · refine zs_iload_n dX2_fullest_41 rfl ?_
          refine zs_istore_n (lv' := [(1, .int (nI i)), (0, .ref t), (2, .int (nI i))]) dX2_fullest_42 (Nat.le_of_ble_eq_true rfl) rfl ?_
          refine zs_iinc (v := (nI (i + 1))) (lv' := [(2, .int (nI (i + 1))), (1, .int (nI i)), (0, .ref t)]) dX2_fullest_43 rfl (nI_s1 i) (Nat.le_of_ble_eq_true rfl) rfl ?_
          refine zs_goto (tgt := 4) dX2_fullest_46 (by decide) ?_
          refine zs_lv [2, 1, 0] rfl ?_
          refine ih (i + 1) _ (by omega) ?_
          first
            | (rw [pBst_0 (by assumption)]; exact hf)
            | (rw [pBst_y (by assumption) hj (by rw [decide_eq_true_iff]; grind)]; rfl)
            | (rw [pBst_s (by assumption) hj (by rw [decide_eq_true_iff]; grind)]; exact hj2)
            | (rw [pBst_n (by assumption) (eO_nn hf (by assumption) hlt)]; rfl)
theorem dX2_leanest_0 : decode cX2_leanest 0 = .ok (.iconst (-1), 1) := by decide +kernel
theorem dX2_leanest_1 : decode cX2_leanest 1 = .ok (.istore_n 1, 1) := by decide +kernel
theorem dX2_leanest_2 : decode cX2_leanest 2 = .ok (.iconst 0, 1) := by decide +kernel
theorem dX2_leanest_3 : decode cX2_leanest 3 = .ok (.istore_n 2, 1) := by decide +kernel
theorem dX2_leanest_4 : decode cX2_leanest 4 = .ok (.iload_n 2, 1) := by decide +kernel
theorem dX2_leanest_5 : decode cX2_leanest 5 = .ok (.aload_n 0, 1) := by decide +kernel
theorem dX2_leanest_6 : decode cX2_leanest 6 = .ok (.getfield 42, 3) := by decide +kernel
theorem dX2_leanest_9 : decode cX2_leanest 9 = .ok (.if_icmp .ge 40, 3) := by decide +kernel
theorem dX2_leanest_12 : decode cX2_leanest 12 = .ok (.aload_n 0, 1) := by decide +kernel
theorem dX2_leanest_13 : decode cX2_leanest 13 = .ok (.getfield 18, 3) := by decide +kernel
theorem dX2_leanest_16 : decode cX2_leanest 16 = .ok (.iload_n 2, 1) := by decide +kernel
theorem dX2_leanest_17 : decode cX2_leanest 17 = .ok (.baload, 1) := by decide +kernel
theorem dX2_leanest_18 : decode cX2_leanest 18 = .ok (.ifCond .eq 25, 3) := by decide +kernel
theorem dX2_leanest_21 : decode cX2_leanest 21 = .ok (.iload_n 1, 1) := by decide +kernel
theorem dX2_leanest_22 : decode cX2_leanest 22 = .ok (.iconst (-1), 1) := by decide +kernel
theorem dX2_leanest_23 : decode cX2_leanest 23 = .ok (.if_icmp .eq 18, 3) := by decide +kernel
theorem dX2_leanest_26 : decode cX2_leanest 26 = .ok (.aload_n 0, 1) := by decide +kernel
theorem dX2_leanest_27 : decode cX2_leanest 27 = .ok (.getfield 9, 3) := by decide +kernel
theorem dX2_leanest_30 : decode cX2_leanest 30 = .ok (.iload_n 2, 1) := by decide +kernel
theorem dX2_leanest_31 : decode cX2_leanest 31 = .ok (.iaload, 1) := by decide +kernel
theorem dX2_leanest_32 : decode cX2_leanest 32 = .ok (.aload_n 0, 1) := by decide +kernel
theorem dX2_leanest_33 : decode cX2_leanest 33 = .ok (.getfield 9, 3) := by decide +kernel
theorem dX2_leanest_36 : decode cX2_leanest 36 = .ok (.iload_n 1, 1) := by decide +kernel
theorem dX2_leanest_37 : decode cX2_leanest 37 = .ok (.iaload, 1) := by decide +kernel
theorem dX2_leanest_38 : decode cX2_leanest 38 = .ok (.if_icmp .ge 5, 3) := by decide +kernel
theorem dX2_leanest_41 : decode cX2_leanest 41 = .ok (.iload_n 2, 1) := by decide +kernel
theorem dX2_leanest_42 : decode cX2_leanest 42 = .ok (.istore_n 1, 1) := by decide +kernel
theorem dX2_leanest_43 : decode cX2_leanest 43 = .ok (.iinc 2 1, 3) := by decide +kernel
theorem dX2_leanest_46 : decode cX2_leanest 46 = .ok (.goto (-42), 3) := by decide +kernel
theorem dX2_leanest_49 : decode cX2_leanest 49 = .ok (.iload_n 1, 1) := by decide +kernel
theorem dX2_leanest_50 : decode cX2_leanest 50 = .ok (.ireturn, 1) := by decide +kernel
set_option maxRecDepth 100000 in
theorem lp_leanest {l : Launch} {dd : Nat} {Po : zPo} {K0 : zK} {h0 : List va_E} {Xo : zK → Prop} {Gc : zG → Prop} (t n : Nat) (sc : Nat → Int32) (fu we bu he se : Nat → Int32) (hn : n ≤ 64) (hsc : sc 2 = nI n)
    (hk : ∀ found, found = eO (pBst bLess fu bu n) → zS (l, mX2_leanest, dd, Po, K0, h0, Xo, Gc) 0 0 49 [(0, .ref t), (1, .int found), (2, .int (nI n))] [] (kFire t sc fu we bu he se)) :
    ∀ (m i : Nat) (found : Int32), i + m = n → found = eO (pBst bLess fu bu i) → zS (l, mX2_leanest, dd, Po, K0, h0, Xo, Gc) 0 0 4 [(0, .ref t), (1, .int found), (2, .int (nI i))] [] (kFire t sc fu we bu he se) := by
  intro m
  induction m with
  | zero =>
    intro i found hi hf
    have hin : i = n := by omega
    subst hin
    refine zs_iload_n dX2_leanest_4 rfl ?_
    refine zs_aload_n dX2_leanest_5 rfl rfl ?_
    refine zs_get 0 dX2_leanest_6 zf_RX2_42 rfl (v := .int (sc 2)) rfl ?_
    refine zs_icmp_ge (tgt := 49) dX2_leanest_9 (by decide) (fun c => ?_) (fun c => ?_)
    · exact hk found hf
    · exact absurd (by rw [hsc]; exact Int32.le_refl _) c
  | succ m ih0 =>
    intro i found hi hf
    have hil : i < n := by omega
    have ih : ∀ (i' : Nat) (found' : Int32), i' + m = n → found' = eO (pBst bLess fu bu i') → zS (l, mX2_leanest, dd, Po, K0, h0, Xo, Gc) 0 0 4 [(0, .ref t), (1, .int found'), (2, .int (nI i'))] [] (kFire t sc fu we bu he se) := ih0
    have hin : vp_in (nI i) 64 := vp_in_nI (by omega) (by omega)
    have hlt : ∀ k, pBst bLess fu bu i = some k → k < 2147483648 := fun k hk => by have := pBst_lt hk; omega
    refine zs_iload_n dX2_leanest_4 rfl ?_
    refine zs_aload_n dX2_leanest_5 rfl rfl ?_
    refine zs_get 0 dX2_leanest_6 zf_RX2_42 rfl (v := .int (sc 2)) rfl ?_
    refine zs_icmp_ge (tgt := 49) dX2_leanest_9 (by decide) (fun c_1 => (nI_ge hil (by omega) (hsc ▸ c_1) : False).elim) (fun c_1 => ?_)
    refine zs_aload_n dX2_leanest_12 rfl rfl ?_
    refine zs_get 0 dX2_leanest_13 zf_RX2_18 rfl (v := .ref (t + 3)) rfl ?_
    refine zs_iload_n dX2_leanest_16 rfl ?_
    refine zs_zald 3 dX2_leanest_17 rfl hin ?_
    refine zs_as (y := bu i) (by rw [nI_c (by omega)]) ?_
    refine zs_if_eq (tgt := 43) dX2_leanest_18 (by decide) (fun c_2 => ?_) (fun c_2 => ?_)
    · refine zs_iinc (v := (nI (i + 1))) (lv' := [(2, .int (nI (i + 1))), (0, .ref t), (1, .int found)]) dX2_leanest_43 rfl (nI_s1 i) (Nat.le_of_ble_eq_true rfl) rfl ?_
      refine zs_goto (tgt := 4) dX2_leanest_46 (by decide) ?_
      refine zs_lv [1, 2, 0] rfl ?_
      refine ih (i + 1) _ (by omega) ?_
      first
        | (rw [pBst_0 (by assumption)]; exact hf)
        | (rw [pBst_y (by assumption) hj (by rw [decide_eq_true_iff]; grind)]; rfl)
        | (rw [pBst_s (by assumption) hj (by rw [decide_eq_true_iff]; grind)]; exact hj2)
        | (rw [pBst_n (by assumption) (eO_nn hf (by assumption) hlt)]; rfl)
    · refine zs_iload_n dX2_leanest_21 rfl ?_
      refine zs_iconst (v := (-1)) dX2_leanest_22 (by decide) ?_
      refine zs_icmp_eq (tgt := 41) dX2_leanest_23 (by decide) (fun c_3 => ?_) (fun c_3 => ?_)
      · refine zs_iload_n dX2_leanest_41 rfl ?_
        refine zs_istore_n (lv' := [(1, .int (nI i)), (0, .ref t), (2, .int (nI i))]) dX2_leanest_42 (Nat.le_of_ble_eq_true rfl) rfl ?_
        refine zs_iinc (v := (nI (i + 1))) (lv' := [(2, .int (nI (i + 1))), (1, .int (nI i)), (0, .ref t)]) dX2_leanest_43 rfl (nI_s1 i) (Nat.le_of_ble_eq_true rfl) rfl ?_
        refine zs_goto (tgt := 4) dX2_leanest_46 (by decide) ?_
        refine zs_lv [2, 1, 0] rfl ?_
        refine ih (i + 1) _ (by omega) ?_
        first
          | (rw [pBst_0 (by assumption)]; exact hf)
          | (rw [pBst_y (by assumption) hj (by rw [decide_eq_true_iff]; grind)]; rfl)
          | (rw [pBst_s (by assumption) hj (by rw [decide_eq_true_iff]; grind)]; exact hj2)
          | (rw [pBst_n (by assumption) (eO_nn hf (by assumption) hlt)]; rfl)
      · obtain ⟨j, hj⟩ := eO_ne (by rw [← hf]; assumption)
        have hjl := pBst_lt hj
        have hj2 : found = nI j := by rw [hf, hj]; rfl
        have hfi : vp_in found 64 := by rw [hj2]; exact vp_in_nI (by omega) (by omega)
        refine zs_aload_n dX2_leanest_26 rfl rfl ?_
        refine zs_get 0 dX2_leanest_27 zf_RX2_9 rfl (v := .ref (t + 1)) rfl ?_
        refine zs_iload_n dX2_leanest_30 rfl ?_
        refine zs_iald 1 dX2_leanest_31 rfl hin ?_
        refine zs_as (y := fu i) (by rw [nI_c (by omega)]) ?_
        refine zs_aload_n dX2_leanest_32 rfl rfl ?_
        refine zs_get 0 dX2_leanest_33 zf_RX2_9 rfl (v := .ref (t + 1)) rfl ?_
        refine zs_iload_n dX2_leanest_36 rfl ?_
        refine zs_iald 1 dX2_leanest_37 rfl hfi ?_
        refine zs_as (y := fu j) (by rw [hj2, nI_c (by omega)]) ?_
        refine zs_icmp_ge (tgt := 43) dX2_leanest_38 (by decide) (fun c_4 => ?_) (fun c_4 => ?_)
        · refine zs_iinc (v := (nI (i + 1))) (lv' := [(2, .int (nI (i + 1))), (0, .ref t), (1, .int found)]) dX2_leanest_43 rfl (nI_s1 i) (Nat.le_of_ble_eq_true rfl) rfl ?_
          refine zs_goto (tgt := 4) dX2_leanest_46 (by decide) ?_
          refine zs_lv [1, 2, 0] rfl ?_
          refine ih (i + 1) _ (by omega) ?_
          first
            | (rw [pBst_0 (by assumption)]; exact hf)
            | (rw [pBst_y (by assumption) hj (by rw [decide_eq_true_iff]; grind)]; rfl)
            | (rw [pBst_s (by assumption) hj (by rw [decide_eq_true_iff]; grind)]; exact hj2)
            | (rw [pBst_n (by assumption) (eO_nn hf (by assumption) hlt)]; rfl)
        · refine zs_iload_n dX2_leanest_41 rfl ?_
          refine zs_istore_n (lv' := [(1, .int (nI i)), (0, .ref t), (2, .int (nI i))]) dX2_leanest_42 (Nat.le_of_ble_eq_true rfl) rfl ?_
          refine zs_iinc (v := (nI (i + 1))) (lv' := [(2, .int (nI (i + 1))), (1, .int (nI i)), (0, .ref t)]) dX2_leanest_43 rfl (nI_s1 i) (Nat.le_of_ble_eq_true rfl) rfl ?_
          refine zs_goto (tgt := 4) dX2_leanest_46 (by decide) ?_
          refine zs_lv [2, 1, 0] rfl ?_
          refine ih (i + 1) _ (by omega) ?_
          first
            | (rw [pBst_0 (by assumption)]; exact hf)
            | (rw [pBst_y (by assumption) hj (by rw [decide_eq_true_iff]; grind)]; rfl)
            | (rw [pBst_s (by assumption) hj (by rw [decide_eq_true_iff]; grind)]; exact hj2)
            | (rw [pBst_n (by assumption) (eO_nn hf (by assumption) hlt)]; rfl)
