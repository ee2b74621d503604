/-! ===== PailRow.Fire ===== -/
def fFire (ad : Nat → Nat) (sc : Nat → Int32) : List Value := [.int (sc 0), .int (sc 1), .int (sc 2), .int (sc 3), .ref (ad 1), .ref (ad 2), .ref (ad 3), .ref (ad 4), .ref (ad 5), .int (sc 9), .int (sc 10), .int (sc 11)]
abbrev kFire (t : Nat) (ad : Nat → Nat) (sc : Nat → Int32) (fu we bu he se : Nat → Int32) : zK := [(t, .inr (1, fFire ad sc)), (ad 1, .inl (0, 64, .inl fu)), (ad 2, .inl (0, 64, .inl we)), (ad 3, .inl (1, 64, .inl bu)), (ad 4, .inl (0, 64, .inl he)), (ad 5, .inl (0, 60, .inl se))]
/-- a place, or none: -1 -/
def eO (r : Option Nat) : Int32 := match r with
  | none => -1
  | some k => nI k
theorem eO_none : eO none = -1 := rfl
theorem eO_some (k : Nat) : eO (some k) = nI k := rfl
theorem nI_ne1 {k : Nat} (h : k < 2147483648) : ¬ nI k = -1 := by
  intro q
  rw [zi_eq, nI_t h] at q
  have : (-1 : Int32).toInt = -1 := rfl
  omega
theorem eO_ne {r : Option Nat} (h : ¬ eO r = -1) : ∃ k, r = some k := by
  cases r with
  | none => exact absurd rfl h
  | some k => exact ⟨k, rfl⟩
theorem eO_nn {r : Option Nat} {x : Int32} (h : x = eO r) (hx : x = -1) (hl : ∀ k, r = some k → k < 2147483648) : r = none := by
  cases r with
  | none => rfl
  | some k => exact absurd (by rw [← hx, h]; rfl) (nI_ne1 (hl k rfl))
/-- the first place of the most (fullest), of the least (leanest) among those that burn -/
def pBst (bt : Int32 → Int32 → Bool) (fu bu : Nat → Int32) : Nat → Option Nat
  | 0 => none
  | k + 1 => if bu k = 0 then pBst bt fu bu k else match pBst bt fu bu k with
    | none => some k
    | some j => if bt (fu k) (fu j) = true then some k else some j
theorem pBst_lt {bt : Int32 → Int32 → Bool} {fu bu : Nat → Int32} : ∀ {n j : Nat}, pBst bt fu bu n = some j → j < n
  | 0, j, h => by cases h
  | k + 1, j, h => by
    simp only [pBst] at h
    split at h
    · exact Nat.lt_succ_of_lt (pBst_lt h)
    · split at h
      · cases h; exact Nat.lt_succ_self _
      · rename_i i hi
        split at h
        · cases h; exact Nat.lt_succ_self _
        · cases h; exact Nat.lt_succ_of_lt (pBst_lt hi)
theorem pBst_0 {bt : Int32 → Int32 → Bool} {fu bu : Nat → Int32} {k : Nat} (h : bu k = 0) : pBst bt fu bu (k + 1) = pBst bt fu bu k := by simp only [pBst, if_pos h]
theorem pBst_n {bt : Int32 → Int32 → Bool} {fu bu : Nat → Int32} {k : Nat} (h : ¬ bu k = 0) (h2 : pBst bt fu bu k = none) : pBst bt fu bu (k + 1) = some k := by simp only [pBst, if_neg h, h2]
theorem pBst_y {bt : Int32 → Int32 → Bool} {fu bu : Nat → Int32} {k j : Nat} (h : ¬ bu k = 0) (h2 : pBst bt fu bu k = some j) (h3 : bt (fu k) (fu j) = true) : pBst bt fu bu (k + 1) = some k := by simp only [pBst, if_neg h, h2, if_pos h3]
theorem pBst_s {bt : Int32 → Int32 → Bool} {fu bu : Nat → Int32} {k j : Nat} (h : ¬ bu k = 0) (h2 : pBst bt fu bu k = some j) (h3 : ¬ bt (fu k) (fu j) = true) : pBst bt fu bu (k + 1) = some j := by simp only [pBst, if_neg h, h2, if_neg h3]
abbrev bMore (x y : Int32) : Bool := decide (y < x)
abbrev bLess (x y : Int32) : Bool := decide (x < y)
theorem dX2_windTo_0 : decode cX2_windTo 0 = .ok (.aload_n 0, 1) := by decide +kernel
theorem dX2_windTo_1 : decode cX2_windTo 1 = .ok (.getfield 48, 3) := by decide +kernel
theorem dX2_windTo_4 : decode cX2_windTo 4 = .ok (.iload_n 1, 1) := by decide +kernel
theorem dX2_windTo_5 : decode cX2_windTo 5 = .ok (.if_icmp .ne 5, 3) := by decide +kernel
theorem dX2_windTo_8 : decode cX2_windTo 8 = .ok (.iconst 2, 1) := by decide +kernel
theorem dX2_windTo_9 : decode cX2_windTo 9 = .ok (.ireturn, 1) := by decide +kernel
theorem dX2_windTo_10 : decode cX2_windTo 10 = .ok (.aload_n 0, 1) := by decide +kernel
theorem dX2_windTo_11 : decode cX2_windTo 11 = .ok (.getfield 48, 3) := by decide +kernel
theorem dX2_windTo_14 : decode cX2_windTo 14 = .ok (.iload_n 1, 1) := by decide +kernel
theorem dX2_windTo_15 : decode cX2_windTo 15 = .ok (.iconst 2, 1) := by decide +kernel
theorem dX2_windTo_16 : decode cX2_windTo 16 = .ok (.iadd, 1) := by decide +kernel
theorem dX2_windTo_17 : decode cX2_windTo 17 = .ok (.iconst 4, 1) := by decide +kernel
theorem dX2_windTo_18 : decode cX2_windTo 18 = .ok (.irem, 1) := by decide +kernel
theorem dX2_windTo_19 : decode cX2_windTo 19 = .ok (.if_icmp .ne 7, 3) := by decide +kernel
theorem dX2_windTo_22 : decode cX2_windTo 22 = .ok (.iconst 0, 1) := by decide +kernel
theorem dX2_windTo_23 : decode cX2_windTo 23 = .ok (.goto 4, 3) := by decide +kernel
theorem dX2_windTo_26 : decode cX2_windTo 26 = .ok (.iconst 1, 1) := by decide +kernel
theorem dX2_windTo_27 : decode cX2_windTo 27 = .ok (.ireturn, 1) := by decide +kernel
def pWind (w d : Int32) : Int32 := if w = d then 2 else if w = (d + 2) - (d + 2) / 4 * 4 then 0 else 1
set_option maxRecDepth 100000 in
theorem s_windTo (l : Launch) (dd : Nat) (t : Nat) (ad : Nat → Nat) (sc : Nat → Int32) (d : Int32) : zSp l mX2_windTo dd 0 0 [.ref t, .int d] [(t, .inr (1, fFire ad sc))] (fun r K' => r = some (.int (pWind (sc 3) d)) ∧ K' = [(t, .inr (1, fFire ad sc))]) := by
  refine zSp.of (by decide) (Nat.le_of_ble_eq_true rfl) (fun h0 => ?_)
  show zS _ 0 0 0 [(0, .ref t), (1, .int d)] [] [(t, .inr (1, fFire ad sc))]
  refine zs_aload_n dX2_windTo_0 rfl rfl ?_
  refine zs_get 0 dX2_windTo_1 zf_RX2_48 rfl (v := .int (sc 3)) rfl ?_
  refine zs_iload_n dX2_windTo_4 rfl ?_
  refine zs_icmp_ne (tgt := 10) dX2_windTo_5 (by decide) (fun c_1 => ?_) (fun c_1 => ?_)
  · refine zs_aload_n dX2_windTo_10 rfl rfl ?_
    refine zs_get 0 dX2_windTo_11 zf_RX2_48 rfl (v := .int (sc 3)) rfl ?_
    refine zs_iload_n dX2_windTo_14 rfl ?_
    refine zs_iconst (v := 2) dX2_windTo_15 (by decide) ?_
    refine zs_iadd dX2_windTo_16 ?_
    refine zs_iconst (v := 4) dX2_windTo_17 (by decide) ?_
    refine zs_irem dX2_windTo_18 (by decide) ?_
    refine zs_icmp_ne (tgt := 26) dX2_windTo_19 (by decide) (fun c_2 => ?_) (fun c_2 => ?_)
    · refine zs_iconst (v := 1) dX2_windTo_26 (by decide) ?_
      exact zs_iret dX2_windTo_27 rfl ⟨by simp_all [pWind], rfl⟩
    · refine zs_iconst (v := 0) dX2_windTo_22 (by decide) ?_
      refine zs_goto (tgt := 27) dX2_windTo_23 (by decide) ?_
      exact zs_iret dX2_windTo_27 rfl ⟨by simp_all [pWind], rfl⟩
  · refine zs_iconst (v := 2) dX2_windTo_8 (by decide) ?_
    exact zs_iret dX2_windTo_9 rfl ⟨by simp_all [pWind], rfl⟩
theorem dX2_fullest_0 : decode cX2_fullest 0 = .ok (.iconst (-1), 1) := by decide +kernel
theorem dX2_fullest_1 : decode cX2_fullest 1 = .ok (.istore_n 1, 1) := by decide +kernel
theorem dX2_fullest_2 : decode cX2_fullest 2 = .ok (.iconst 0, 1) := by decide +kernel
theorem dX2_fullest_3 : decode cX2_fullest 3 = .ok (.istore_n 2, 1) := by decide +kernel
theorem dX2_fullest_4 : decode cX2_fullest 4 = .ok (.iload_n 2, 1) := by decide +kernel
theorem dX2_fullest_5 : decode cX2_fullest 5 = .ok (.aload_n 0, 1) := by decide +kernel
theorem dX2_fullest_6 : decode cX2_fullest 6 = .ok (.getfield 42, 3) := by decide +kernel
theorem dX2_fullest_9 : decode cX2_fullest 9 = .ok (.if_icmp .ge 40, 3) := by decide +kernel
theorem dX2_fullest_12 : decode cX2_fullest 12 = .ok (.aload_n 0, 1) := by decide +kernel
theorem dX2_fullest_13 : decode cX2_fullest 13 = .ok (.getfield 18, 3) := by decide +kernel
theorem dX2_fullest_16 : decode cX2_fullest 16 = .ok (.iload_n 2, 1) := by decide +kernel
theorem dX2_fullest_17 : decode cX2_fullest 17 = .ok (.baload, 1) := by decide +kernel
theorem dX2_fullest_18 : decode cX2_fullest 18 = .ok (.ifCond .eq 25, 3) := by decide +kernel
theorem dX2_fullest_21 : decode cX2_fullest 21 = .ok (.iload_n 1, 1) := by decide +kernel
theorem dX2_fullest_22 : decode cX2_fullest 22 = .ok (.iconst (-1), 1) := by decide +kernel
theorem dX2_fullest_23 : decode cX2_fullest 23 = .ok (.if_icmp .eq 18, 3) := by decide +kernel
theorem dX2_fullest_26 : decode cX2_fullest 26 = .ok (.aload_n 0, 1) := by decide +kernel
theorem dX2_fullest_27 : decode cX2_fullest 27 = .ok (.getfield 9, 3) := by decide +kernel
theorem dX2_fullest_30 : decode cX2_fullest 30 = .ok (.iload_n 2, 1) := by decide +kernel
theorem dX2_fullest_31 : decode cX2_fullest 31 = .ok (.iaload, 1) := by decide +kernel
theorem dX2_fullest_32 : decode cX2_fullest 32 = .ok (.aload_n 0, 1) := by decide +kernel
theorem dX2_fullest_33 : decode cX2_fullest 33 = .ok (.getfield 9, 3) := by decide +kernel
theorem dX2_fullest_36 : decode cX2_fullest 36 = .ok (.iload_n 1, 1) := by decide +kernel
theorem dX2_fullest_37 : decode cX2_fullest 37 = .ok (.iaload, 1) := by decide +kernel
theorem dX2_fullest_38 : decode cX2_fullest 38 = .ok (.if_icmp .le 5, 3) := by decide +kernel
theorem dX2_fullest_41 : decode cX2_fullest 41 = .ok (.iload_n 2, 1) := by decide +kernel
theorem dX2_fullest_42 : decode cX2_fullest 42 = .ok (.istore_n 1, 1) := by decide +kernel
theorem dX2_fullest_43 : decode cX2_fullest 43 = .ok (.iinc 2 1, 3) := by decide +kernel
theorem dX2_fullest_46 : decode cX2_fullest 46 = .ok (.goto (-42), 3) := by decide +kernel
theorem dX2_fullest_49 : decode cX2_fullest 49 = .ok (.iload_n 1, 1) := by decide +kernel
theorem dX2_fullest_50 : decode cX2_fullest 50 = .ok (.ireturn, 1) := by decide +kernel
set_option maxRecDepth 100000 in
theorem lp_fullest {l : Launch} {dd : Nat} {Po : zPo} {K0 : zK} {h0 : List va_E} {Xo : zK → Prop} {Gc : zG → Prop} (t : Nat) (ad : Nat → Nat) (n : Nat) (sc : Nat → Int32) (fu we bu he se : Nat → Int32) (hn : n ≤ 64) (hsc : sc 2 = nI n)
    (hk : ∀ found, found = eO (pBst bMore fu bu n) → zS (l, mX2_fullest, dd, Po, K0, h0, Xo, Gc) 0 0 49 [(0, .ref t), (1, .int found), (2, .int (nI n))] [] (kFire t ad sc fu we bu he se)) :
    ∀ (m i : Nat) (found : Int32), i + m = n → found = eO (pBst bMore fu bu i) → zS (l, mX2_fullest, dd, Po, K0, h0, Xo, Gc) 0 0 4 [(0, .ref t), (1, .int found), (2, .int (nI i))] [] (kFire t ad sc fu we bu he se) := by
  intro m
  induction m with
  | zero =>
    intro i found hi hf
    have hin : i = n := by omega
    subst hin
    refine zs_iload_n dX2_fullest_4 rfl ?_
    refine zs_aload_n dX2_fullest_5 rfl rfl ?_
    refine zs_get 0 dX2_fullest_6 zf_RX2_42 rfl (v := .int (sc 2)) rfl ?_
    refine zs_icmp_ge (tgt := 49) dX2_fullest_9 (by decide) (fun c => ?_) (fun c => ?_)
    · exact hk found hf
    · exact absurd (by rw [hsc]; exact Int32.le_refl _) c
  | succ m ih0 =>
    intro i found hi hf
    have hil : i < n := by omega
    have ih : ∀ (i' : Nat) (found' : Int32), i' + m = n → found' = eO (pBst bMore fu bu i') → zS (l, mX2_fullest, dd, Po, K0, h0, Xo, Gc) 0 0 4 [(0, .ref t), (1, .int found'), (2, .int (nI i'))] [] (kFire t ad sc fu we bu he se) := ih0
    have hin : vp_in (nI i) 64 := vp_in_nI (by omega) (by omega)
    have hlt : ∀ k, pBst bMore fu bu i = some k → k < 2147483648 := fun k hk => by have := pBst_lt hk; omega
    refine zs_iload_n dX2_fullest_4 rfl ?_
    refine zs_aload_n dX2_fullest_5 rfl rfl ?_
    refine zs_get 0 dX2_fullest_6 zf_RX2_42 rfl (v := .int (sc 2)) rfl ?_
    refine zs_icmp_ge (tgt := 49) dX2_fullest_9 (by decide) (fun c_1 => (nI_ge hil (by omega) (hsc ▸ c_1) : False).elim) (fun c_1 => ?_)
    refine zs_aload_n dX2_fullest_12 rfl rfl ?_
    refine zs_get 0 dX2_fullest_13 zf_RX2_18 rfl (v := .ref (ad 3)) rfl ?_
    refine zs_iload_n dX2_fullest_16 rfl ?_
    refine zs_zald 3 dX2_fullest_17 rfl hin ?_
    refine zs_as (y := bu i) (by rw [nI_c (by omega)]) ?_
    refine zs_if_eq (tgt := 43) dX2_fullest_18 (by decide) (fun c_2 => ?_) (fun c_2 => ?_)
    · refine zs_iinc (v := (nI (i + 1))) (lv' := [(2, .int (nI (i + 1))), (0, .ref t), (1, .int found)]) dX2_fullest_43 rfl (nI_s1 i) (Nat.le_of_ble_eq_true rfl) rfl ?_
      refine zs_goto (tgt := 4) dX2_fullest_46 (by decide) ?_
      refine zs_lv [1, 2, 0] rfl ?_
      refine ih (i + 1) _ (by omega) ?_
      first
        | (rw [pBst_0 (by assumption)]; exact hf)
        | (rw [pBst_y (by assumption) hj (by rw [decide_eq_true_iff]; grind)]; rfl)
        | (rw [pBst_s (by assumption) hj (by rw [decide_eq_true_iff]; grind)]; exact hj2)
        | (rw [pBst_n (by assumption) (eO_nn hf (by assumption) hlt)]; rfl)
    · refine zs_iload_n dX2_fullest_21 rfl ?_
      refine zs_iconst (v := (-1)) dX2_fullest_22 (by decide) ?_
      refine zs_icmp_eq (tgt := 41) dX2_fullest_23 (by decide) (fun c_3 => ?_) (fun c_3 => ?_)
      · refine zs_iload_n dX2_fullest_41 rfl ?_
        refine zs_istore_n (lv' := [(1, .int (nI i)), (0, .ref t), (2, .int (nI i))]) dX2_fullest_42 (Nat.le_of_ble_eq_true rfl) rfl ?_
        refine zs_iinc (v := (nI (i + 1))) (lv' := [(2, .int (nI (i + 1))), (1, .int (nI i)), (0, .ref t)]) dX2_fullest_43 rfl (nI_s1 i) (Nat.le_of_ble_eq_true rfl) rfl ?_
        refine zs_goto (tgt := 4) dX2_fullest_46 (by decide) ?_
        refine zs_lv [2, 1, 0] rfl ?_
        refine ih (i + 1) _ (by omega) ?_
        first
          | (rw [pBst_0 (by assumption)]; exact hf)
          | (rw [pBst_y (by assumption) hj (by rw [decide_eq_true_iff]; grind)]; rfl)
          | (rw [pBst_s (by assumption) hj (by rw [decide_eq_true_iff]; grind)]; exact hj2)
          | (rw [pBst_n (by assumption) (eO_nn hf (by assumption) hlt)]; rfl)
      · obtain ⟨j, hj⟩ := eO_ne (by rw [← hf]; assumption)
        have hjl := pBst_lt hj
        have hj2 : found = nI j := by rw [hf, hj]; rfl
        have hfi : vp_in found 64 := by rw [hj2]; exact vp_in_nI (by omega) (by omega)
        refine zs_aload_n dX2_fullest_26 rfl rfl ?_
        refine zs_get 0 dX2_fullest_27 zf_RX2_9 rfl (v := .ref (ad 1)) rfl ?_
        refine zs_iload_n dX2_fullest_30 rfl ?_
        refine zs_iald 1 dX2_fullest_31 rfl hin ?_
        refine zs_as (y := fu i) (by rw [nI_c (by omega)]) ?_
        refine zs_aload_n dX2_fullest_32 rfl rfl ?_
        refine zs_get 0 dX2_fullest_33 zf_RX2_9 rfl (v := .ref (ad 1)) rfl ?_
        refine zs_iload_n dX2_fullest_36 rfl ?_
        refine zs_iald 1 dX2_fullest_37 rfl hfi ?_
        refine zs_as (y := fu j) (by rw [hj2, nI_c (by omega)]) ?_
        refine zs_icmp_le (tgt := 43) dX2_fullest_38 (by decide) (fun c_4 => ?_) (fun c_4 => ?_)
        · refine zs_iinc (v := (nI (i + 1))) (lv' := [(2, .int (nI (i + 1))), (0, .ref t), (1, .int found)]) dX2_fullest_43 rfl (nI_s1 i) (Nat.le_of_ble_eq_true rfl) rfl ?_
          refine zs_goto (tgt := 4) dX2_fullest_46 (by decide) ?_
          refine zs_lv [1, 2, 0] rfl ?_
          refine ih (i + 1) _ (by omega) ?_
          first
            | (rw [pBst_0 (by assumption)]; exact hf)
            | (rw [pBst_y (by assumption) hj (by rw [decide_eq_true_iff]; grind)]; rfl)
            | (rw [pBst_s (by assumption) hj (by rw [decide_eq_true_iff]; grind)]; exact hj2)
            | (rw [pBst_n (by assumption) (eO_nn hf (by assumption) hlt)]; rfl)
        · refine zs_iload_n dX2_fullest_41 rfl ?_
          refine zs_istore_n (lv' := [(1, .int (nI i)), (0, .ref t), (2, .int (nI i))]) dX2_fullest_42 (Nat.le_of_ble_eq_true rfl) rfl ?_
          refine zs_iinc (v := (nI (i + 1))) (lv' := [(2, .int (nI (i + 1))), (1, .int (nI i)), (0, .ref t)]) dX2_fullest_43 rfl (nI_s1 i) (Nat.le_of_ble_eq_true rfl) rfl ?_
          refine zs_goto (tgt := 4) dX2_fullest_46 (by decide) ?_
          refine zs_lv [2, 1, 0] rfl ?_
          refine ih (i + 1) _ (by omega) ?_
          first
            | (rw [pBst_0 (by assumption)]; exact hf)
            | (rw [pBst_y (by assumption) hj (by rw [decide_eq_true_iff]; grind)]; rfl)
            | (rw [pBst_s (by assumption) hj (by rw [decide_eq_true_iff]; grind)]; exact hj2)
            | (rw [pBst_n (by assumption) (eO_nn hf (by assumption) hlt)]; rfl)
theorem dX2_leanest_0 : decode cX2_leanest 0 = .ok (.iconst (-1), 1) := by decide +kernel
theorem dX2_leanest_1 : decode cX2_leanest 1 = .ok (.istore_n 1, 1) := by decide +kernel
theorem dX2_leanest_2 : decode cX2_leanest 2 = .ok (.iconst 0, 1) := by decide +kernel
theorem dX2_leanest_3 : decode cX2_leanest 3 = .ok (.istore_n 2, 1) := by decide +kernel
theorem dX2_leanest_4 : decode cX2_leanest 4 = .ok (.iload_n 2, 1) := by decide +kernel
theorem dX2_leanest_5 : decode cX2_leanest 5 = .ok (.aload_n 0, 1) := by decide +kernel
theorem dX2_leanest_6 : decode cX2_leanest 6 = .ok (.getfield 42, 3) := by decide +kernel
theorem dX2_leanest_9 : decode cX2_leanest 9 = .ok (.if_icmp .ge 40, 3) := by decide +kernel
theorem dX2_leanest_12 : decode cX2_leanest 12 = .ok (.aload_n 0, 1) := by decide +kernel
theorem dX2_leanest_13 : decode cX2_leanest 13 = .ok (.getfield 18, 3) := by decide +kernel
theorem dX2_leanest_16 : decode cX2_leanest 16 = .ok (.iload_n 2, 1) := by decide +kernel
theorem dX2_leanest_17 : decode cX2_leanest 17 = .ok (.baload, 1) := by decide +kernel
theorem dX2_leanest_18 : decode cX2_leanest 18 = .ok (.ifCond .eq 25, 3) := by decide +kernel
theorem dX2_leanest_21 : decode cX2_leanest 21 = .ok (.iload_n 1, 1) := by decide +kernel
theorem dX2_leanest_22 : decode cX2_leanest 22 = .ok (.iconst (-1), 1) := by decide +kernel
theorem dX2_leanest_23 : decode cX2_leanest 23 = .ok (.if_icmp .eq 18, 3) := by decide +kernel
theorem dX2_leanest_26 : decode cX2_leanest 26 = .ok (.aload_n 0, 1) := by decide +kernel
theorem dX2_leanest_27 : decode cX2_leanest 27 = .ok (.getfield 9, 3) := by decide +kernel
theorem dX2_leanest_30 : decode cX2_leanest 30 = .ok (.iload_n 2, 1) := by decide +kernel
theorem dX2_leanest_31 : decode cX2_leanest 31 = .ok (.iaload, 1) := by decide +kernel
theorem dX2_leanest_32 : decode cX2_leanest 32 = .ok (.aload_n 0, 1) := by decide +kernel
theorem dX2_leanest_33 : decode cX2_leanest 33 = .ok (.getfield 9, 3) := by decide +kernel
theorem dX2_leanest_36 : decode cX2_leanest 36 = .ok (.iload_n 1, 1) := by decide +kernel
theorem dX2_leanest_37 : decode cX2_leanest 37 = .ok (.iaload, 1) := by decide +kernel
theorem dX2_leanest_38 : decode cX2_leanest 38 = .ok (.if_icmp .ge 5, 3) := by decide +kernel
theorem dX2_leanest_41 : decode cX2_leanest 41 = .ok (.iload_n 2, 1) := by decide +kernel
theorem dX2_leanest_42 : decode cX2_leanest 42 = .ok (.istore_n 1, 1) := by decide +kernel
theorem dX2_leanest_43 : decode cX2_leanest 43 = .ok (.iinc 2 1, 3) := by decide +kernel
theorem dX2_leanest_46 : decode cX2_leanest 46 = .ok (.goto (-42), 3) := by decide +kernel
theorem dX2_leanest_49 : decode cX2_leanest 49 = .ok (.iload_n 1, 1) := by decide +kernel
theorem dX2_leanest_50 : decode cX2_leanest 50 = .ok (.ireturn, 1) := by decide +kernel
set_option maxRecDepth 100000 in
theorem lp_leanest {l : Launch} {dd : Nat} {Po : zPo} {K0 : zK} {h0 : List va_E} {Xo : zK → Prop} {Gc : zG → Prop} (t : Nat) (ad : Nat → Nat) (n : Nat) (sc : Nat → Int32) (fu we bu he se : Nat → Int32) (hn : n ≤ 64) (hsc : sc 2 = nI n)
    (hk : ∀ found, found = eO (pBst bLess fu bu n) → zS (l, mX2_leanest, dd, Po, K0, h0, Xo, Gc) 0 0 49 [(0, .ref t), (1, .int found), (2, .int (nI n))] [] (kFire t ad sc fu we bu he se)) :
    ∀ (m i : Nat) (found : Int32), i + m = n → found = eO (pBst bLess fu bu i) → zS (l, mX2_leanest, dd, Po, K0, h0, Xo, Gc) 0 0 4 [(0, .ref t), (1, .int found), (2, .int (nI i))] [] (kFire t ad sc fu we bu he se) := by
  intro m
  induction m with
  | zero =>
    intro i found hi hf
    have hin : i = n := by omega
    subst hin
    refine zs_iload_n dX2_leanest_4 rfl ?_
    refine zs_aload_n dX2_leanest_5 rfl rfl ?_
    refine zs_get 0 dX2_leanest_6 zf_RX2_42 rfl (v := .int (sc 2)) rfl ?_
    refine zs_icmp_ge (tgt := 49) dX2_leanest_9 (by decide) (fun c => ?_) (fun c => ?_)
    · exact hk found hf
    · exact absurd (by rw [hsc]; exact Int32.le_refl _) c
  | succ m ih0 =>
    intro i found hi hf
    have hil : i < n := by omega
    have ih : ∀ (i' : Nat) (found' : Int32), i' + m = n → found' = eO (pBst bLess fu bu i') → zS (l, mX2_leanest, dd, Po, K0, h0, Xo, Gc) 0 0 4 [(0, .ref t), (1, .int found'), (2, .int (nI i'))] [] (kFire t ad sc fu we bu he se) := ih0
    have hin : vp_in (nI i) 64 := vp_in_nI (by omega) (by omega)
    have hlt : ∀ k, pBst bLess fu bu i = some k → k < 2147483648 := fun k hk => by have := pBst_lt hk; omega
    refine zs_iload_n dX2_leanest_4 rfl ?_
    refine zs_aload_n dX2_leanest_5 rfl rfl ?_
    refine zs_get 0 dX2_leanest_6 zf_RX2_42 rfl (v := .int (sc 2)) rfl ?_
    refine zs_icmp_ge (tgt := 49) dX2_leanest_9 (by decide) (fun c_1 => (nI_ge hil (by omega) (hsc ▸ c_1) : False).elim) (fun c_1 => ?_)
    refine zs_aload_n dX2_leanest_12 rfl rfl ?_
    refine zs_get 0 dX2_leanest_13 zf_RX2_18 rfl (v := .ref (ad 3)) rfl ?_
    refine zs_iload_n dX2_leanest_16 rfl ?_
    refine zs_zald 3 dX2_leanest_17 rfl hin ?_
    refine zs_as (y := bu i) (by rw [nI_c (by omega)]) ?_
    refine zs_if_eq (tgt := 43) dX2_leanest_18 (by decide) (fun c_2 => ?_) (fun c_2 => ?_)
    · refine zs_iinc (v := (nI (i + 1))) (lv' := [(2, .int (nI (i + 1))), (0, .ref t), (1, .int found)]) dX2_leanest_43 rfl (nI_s1 i) (Nat.le_of_ble_eq_true rfl) rfl ?_
      refine zs_goto (tgt := 4) dX2_leanest_46 (by decide) ?_
      refine zs_lv [1, 2, 0] rfl ?_
      refine ih (i + 1) _ (by omega) ?_
      first
        | (rw [pBst_0 (by assumption)]; exact hf)
        | (rw [pBst_y (by assumption) hj (by rw [decide_eq_true_iff]; grind)]; rfl)
        | (rw [pBst_s (by assumption) hj (by rw [decide_eq_true_iff]; grind)]; exact hj2)
        | (rw [pBst_n (by assumption) (eO_nn hf (by assumption) hlt)]; rfl)
    · refine zs_iload_n dX2_leanest_21 rfl ?_
      refine zs_iconst (v := (-1)) dX2_leanest_22 (by decide) ?_
      refine zs_icmp_eq (tgt := 41) dX2_leanest_23 (by decide) (fun c_3 => ?_) (fun c_3 => ?_)
      · refine zs_iload_n dX2_leanest_41 rfl ?_
        refine zs_istore_n (lv' := [(1, .int (nI i)), (0, .ref t), (2, .int (nI i))]) dX2_leanest_42 (Nat.le_of_ble_eq_true rfl) rfl ?_
        refine zs_iinc (v := (nI (i + 1))) (lv' := [(2, .int (nI (i + 1))), (1, .int (nI i)), (0, .ref t)]) dX2_leanest_43 rfl (nI_s1 i) (Nat.le_of_ble_eq_true rfl) rfl ?_
        refine zs_goto (tgt := 4) dX2_leanest_46 (by decide) ?_
        refine zs_lv [2, 1, 0] rfl ?_
        refine ih (i + 1) _ (by omega) ?_
        first
          | (rw [pBst_0 (by assumption)]; exact hf)
          | (rw [pBst_y (by assumption) hj (by rw [decide_eq_true_iff]; grind)]; rfl)
          | (rw [pBst_s (by assumption) hj (by rw [decide_eq_true_iff]; grind)]; exact hj2)
          | (rw [pBst_n (by assumption) (eO_nn hf (by assumption) hlt)]; rfl)
      · obtain ⟨j, hj⟩ := eO_ne (by rw [← hf]; assumption)
        have hjl := pBst_lt hj
        have hj2 : found = nI j := by rw [hf, hj]; rfl
        have hfi : vp_in found 64 := by rw [hj2]; exact vp_in_nI (by omega) (by omega)
        refine zs_aload_n dX2_leanest_26 rfl rfl ?_
        refine zs_get 0 dX2_leanest_27 zf_RX2_9 rfl (v := .ref (ad 1)) rfl ?_
        refine zs_iload_n dX2_leanest_30 rfl ?_
        refine zs_iald 1 dX2_leanest_31 rfl hin ?_
        refine zs_as (y := fu i) (by rw [nI_c (by omega)]) ?_
        refine zs_aload_n dX2_leanest_32 rfl rfl ?_
        refine zs_get 0 dX2_leanest_33 zf_RX2_9 rfl (v := .ref (ad 1)) rfl ?_
        refine zs_iload_n dX2_leanest_36 rfl ?_
        refine zs_iald 1 dX2_leanest_37 rfl hfi ?_
        refine zs_as (y := fu j) (by rw [hj2, nI_c (by omega)]) ?_
        refine zs_icmp_ge (tgt := 43) dX2_leanest_38 (by decide) (fun c_4 => ?_) (fun c_4 => ?_)
        · refine zs_iinc (v := (nI (i + 1))) (lv' := [(2, .int (nI (i + 1))), (0, .ref t), (1, .int found)]) dX2_leanest_43 rfl (nI_s1 i) (Nat.le_of_ble_eq_true rfl) rfl ?_
          refine zs_goto (tgt := 4) dX2_leanest_46 (by decide) ?_
          refine zs_lv [1, 2, 0] rfl ?_
          refine ih (i + 1) _ (by omega) ?_
          first
            | (rw [pBst_0 (by assumption)]; exact hf)
            | (rw [pBst_y (by assumption) hj (by rw [decide_eq_true_iff]; grind)]; rfl)
            | (rw [pBst_s (by assumption) hj (by rw [decide_eq_true_iff]; grind)]; exact hj2)
            | (rw [pBst_n (by assumption) (eO_nn hf (by assumption) hlt)]; rfl)
        · refine zs_iload_n dX2_leanest_41 rfl ?_
          refine zs_istore_n (lv' := [(1, .int (nI i)), (0, .ref t), (2, .int (nI i))]) dX2_leanest_42 (Nat.le_of_ble_eq_true rfl) rfl ?_
          refine zs_iinc (v := (nI (i + 1))) (lv' := [(2, .int (nI (i + 1))), (1, .int (nI i)), (0, .ref t)]) dX2_leanest_43 rfl (nI_s1 i) (Nat.le_of_ble_eq_true rfl) rfl ?_
          refine zs_goto (tgt := 4) dX2_leanest_46 (by decide) ?_
          refine zs_lv [2, 1, 0] rfl ?_
          refine ih (i + 1) _ (by omega) ?_
          first
            | (rw [pBst_0 (by assumption)]; exact hf)
            | (rw [pBst_y (by assumption) hj (by rw [decide_eq_true_iff]; grind)]; rfl)
            | (rw [pBst_s (by assumption) hj (by rw [decide_eq_true_iff]; grind)]; exact hj2)
            | (rw [pBst_n (by assumption) (eO_nn hf (by assumption) hlt)]; rfl)
set_option maxRecDepth 100000 in
theorem s_fullest (l : Launch) (dd : Nat) (t : Nat) (ad : Nat → Nat) (n : Nat) (sc : Nat → Int32) (fu we bu he se : Nat → Int32) (hn : n ≤ 64) (hsc : sc 2 = nI n) : zSp l mX2_fullest dd 0 0 [.ref t] [(t, .inr (1, fFire ad sc)), (ad 1, .inl (0, 64, .inl fu)), (ad 2, .inl (0, 64, .inl we)), (ad 3, .inl (1, 64, .inl bu)), (ad 4, .inl (0, 64, .inl he)), (ad 5, .inl (0, 60, .inl se))] (fun r K' => r = some (.int (eO (pBst bMore fu bu n))) ∧ K' = (kFire t ad sc fu we bu he se)) := by
  refine zSp.of (by decide) (Nat.le_of_ble_eq_true rfl) (fun h0 => ?_)
  show zS _ 0 0 0 [(0, .ref t)] [] [(t, .inr (1, fFire ad sc)), (ad 1, .inl (0, 64, .inl fu)), (ad 2, .inl (0, 64, .inl we)), (ad 3, .inl (1, 64, .inl bu)), (ad 4, .inl (0, 64, .inl he)), (ad 5, .inl (0, 60, .inl se))]
  refine zs_iconst (v := (-1)) dX2_fullest_0 (by decide) ?_
  refine zs_istore_n (lv' := [(1, .int (-1)), (0, .ref t)]) dX2_fullest_1 (Nat.le_of_ble_eq_true rfl) rfl ?_
  refine zs_iconst (v := 0) dX2_fullest_2 (by decide) ?_
  refine zs_istore_n (lv' := [(2, .int 0), (1, .int (-1)), (0, .ref t)]) dX2_fullest_3 (Nat.le_of_ble_eq_true rfl) rfl ?_
  refine zs_lv [2, 1, 0] rfl ?_
  refine lp_fullest t ad n sc fu we bu he se hn hsc (fun found hf => ?_) n 0 _ (by omega) rfl
  refine zs_iload_n dX2_fullest_49 rfl ?_
  exact zs_iret dX2_fullest_50 rfl ⟨by rw [hf], rfl⟩
set_option maxRecDepth 100000 in
theorem s_leanest (l : Launch) (dd : Nat) (t : Nat) (ad : Nat → Nat) (n : Nat) (sc : Nat → Int32) (fu we bu he se : Nat → Int32) (hn : n ≤ 64) (hsc : sc 2 = nI n) : zSp l mX2_leanest dd 0 0 [.ref t] [(t, .inr (1, fFire ad sc)), (ad 1, .inl (0, 64, .inl fu)), (ad 2, .inl (0, 64, .inl we)), (ad 3, .inl (1, 64, .inl bu)), (ad 4, .inl (0, 64, .inl he)), (ad 5, .inl (0, 60, .inl se))] (fun r K' => r = some (.int (eO (pBst bLess fu bu n))) ∧ K' = (kFire t ad sc fu we bu he se)) := by
  refine zSp.of (by decide) (Nat.le_of_ble_eq_true rfl) (fun h0 => ?_)
  show zS _ 0 0 0 [(0, .ref t)] [] [(t, .inr (1, fFire ad sc)), (ad 1, .inl (0, 64, .inl fu)), (ad 2, .inl (0, 64, .inl we)), (ad 3, .inl (1, 64, .inl bu)), (ad 4, .inl (0, 64, .inl he)), (ad 5, .inl (0, 60, .inl se))]
  refine zs_iconst (v := (-1)) dX2_leanest_0 (by decide) ?_
  refine zs_istore_n (lv' := [(1, .int (-1)), (0, .ref t)]) dX2_leanest_1 (Nat.le_of_ble_eq_true rfl) rfl ?_
  refine zs_iconst (v := 0) dX2_leanest_2 (by decide) ?_
  refine zs_istore_n (lv' := [(2, .int 0), (1, .int (-1)), (0, .ref t)]) dX2_leanest_3 (Nat.le_of_ble_eq_true rfl) rfl ?_
  refine zs_lv [2, 1, 0] rfl ?_
  refine lp_leanest t ad n sc fu we bu he se hn hsc (fun found hf => ?_) n 0 _ (by omega) rfl
  refine zs_iload_n dX2_leanest_49 rfl ?_
  exact zs_iret dX2_leanest_50 rfl ⟨by rw [hf], rfl⟩
def pClr (he : Nat → Int32) : Nat → (Nat → Int32)
  | 0 => he
  | k + 1 => upd (pClr he k) k 0
theorem pClr_at (he : Nat → Int32) : ∀ (n j : Nat), pClr he n j = if j < n then 0 else he j
  | 0, j => by simp [pClr]
  | k + 1, j => by
    simp only [pClr, upd, pClr_at he k]
    by_cases h : j = k
    · subst h; simp
    · by_cases h2 : j < k
      · simp [h, h2, Nat.lt_succ_of_lt h2]
      · simp [h, h2, show ¬ j < k + 1 by omega]
/-- heat from one cell that burns, into its neighbours: C columns, R rows, the cell's place p = y C + x -/
def pHs (C R : Nat) (wi : Int32) (fu : Nat → Int32) (y x p : Nat) (h : Nat → Int32) : Nat → Int32 :=
  let h1 := if 0 < y then upd h (p - C) (h (p - C) + fu p * pWind wi 0) else h
  let h2 := if x + 1 < C then upd h1 (p + 1) (h1 (p + 1) + fu p * pWind wi 1) else h1
  let h3 := if y + 1 < R then upd h2 (p + C) (h2 (p + C) + fu p * pWind wi 2) else h2
  if 0 < x then upd h3 (p - 1) (h3 (p - 1) + fu p * pWind wi 3) else h3
/-- the cells of a row, up to x -/
def pHr (C R : Nat) (wi : Int32) (fu bu : Nat → Int32) (y : Nat) (h : Nat → Int32) : Nat → (Nat → Int32)
  | 0 => h
  | x + 1 => if bu (y * C + x) = 0 then pHr C R wi fu bu y h x else pHs C R wi fu y x (y * C + x) (pHr C R wi fu bu y h x)
/-- the rows, up to y -/
def pHt (C R : Nat) (wi : Int32) (fu bu : Nat → Int32) (h : Nat → Int32) : Nat → (Nat → Int32)
  | 0 => h
  | y + 1 => pHr C R wi fu bu y (pHt C R wi fu bu h y) C
def pFeel (C R : Nat) (wi : Int32) (fu bu he : Nat → Int32) : Nat → Int32 := pHt C R wi fu bu (pClr he (C * R)) R
theorem dX2_feelHeat_0 : decode cX2_feelHeat 0 = .ok (.iconst 0, 1) := by decide +kernel
theorem dX2_feelHeat_1 : decode cX2_feelHeat 1 = .ok (.istore_n 1, 1) := by decide +kernel
theorem dX2_feelHeat_2 : decode cX2_feelHeat 2 = .ok (.iload_n 1, 1) := by decide +kernel
theorem dX2_feelHeat_3 : decode cX2_feelHeat 3 = .ok (.aload_n 0, 1) := by decide +kernel
theorem dX2_feelHeat_4 : decode cX2_feelHeat 4 = .ok (.getfield 42, 3) := by decide +kernel
theorem dX2_feelHeat_7 : decode cX2_feelHeat 7 = .ok (.if_icmp .ge 16, 3) := by decide +kernel
theorem dX2_feelHeat_10 : decode cX2_feelHeat 10 = .ok (.aload_n 0, 1) := by decide +kernel
theorem dX2_feelHeat_11 : decode cX2_feelHeat 11 = .ok (.getfield 22, 3) := by decide +kernel
theorem dX2_feelHeat_14 : decode cX2_feelHeat 14 = .ok (.iload_n 1, 1) := by decide +kernel
theorem dX2_feelHeat_15 : decode cX2_feelHeat 15 = .ok (.iconst 0, 1) := by decide +kernel
theorem dX2_feelHeat_16 : decode cX2_feelHeat 16 = .ok (.iastore, 1) := by decide +kernel
theorem dX2_feelHeat_17 : decode cX2_feelHeat 17 = .ok (.iinc 1 1, 3) := by decide +kernel
theorem dX2_feelHeat_20 : decode cX2_feelHeat 20 = .ok (.goto (-18), 3) := by decide +kernel
theorem dX2_feelHeat_23 : decode cX2_feelHeat 23 = .ok (.iconst 0, 1) := by decide +kernel
theorem dX2_feelHeat_24 : decode cX2_feelHeat 24 = .ok (.istore_n 1, 1) := by decide +kernel
theorem dX2_feelHeat_25 : decode cX2_feelHeat 25 = .ok (.iload_n 1, 1) := by decide +kernel
theorem dX2_feelHeat_26 : decode cX2_feelHeat 26 = .ok (.aload_n 0, 1) := by decide +kernel
theorem dX2_feelHeat_27 : decode cX2_feelHeat 27 = .ok (.getfield 41, 3) := by decide +kernel
theorem dX2_feelHeat_30 : decode cX2_feelHeat 30 = .ok (.if_icmp .ge 172, 3) := by decide +kernel
theorem dX2_feelHeat_33 : decode cX2_feelHeat 33 = .ok (.iconst 0, 1) := by decide +kernel
theorem dX2_feelHeat_34 : decode cX2_feelHeat 34 = .ok (.istore_n 2, 1) := by decide +kernel
theorem dX2_feelHeat_35 : decode cX2_feelHeat 35 = .ok (.iload_n 2, 1) := by decide +kernel
theorem dX2_feelHeat_36 : decode cX2_feelHeat 36 = .ok (.aload_n 0, 1) := by decide +kernel
theorem dX2_feelHeat_37 : decode cX2_feelHeat 37 = .ok (.getfield 37, 3) := by decide +kernel
theorem dX2_feelHeat_40 : decode cX2_feelHeat 40 = .ok (.if_icmp .ge 156, 3) := by decide +kernel
theorem dX2_feelHeat_43 : decode cX2_feelHeat 43 = .ok (.iload_n 1, 1) := by decide +kernel
theorem dX2_feelHeat_44 : decode cX2_feelHeat 44 = .ok (.aload_n 0, 1) := by decide +kernel
theorem dX2_feelHeat_45 : decode cX2_feelHeat 45 = .ok (.getfield 37, 3) := by decide +kernel
theorem dX2_feelHeat_48 : decode cX2_feelHeat 48 = .ok (.imul, 1) := by decide +kernel
theorem dX2_feelHeat_49 : decode cX2_feelHeat 49 = .ok (.iload_n 2, 1) := by decide +kernel
theorem dX2_feelHeat_50 : decode cX2_feelHeat 50 = .ok (.iadd, 1) := by decide +kernel
theorem dX2_feelHeat_51 : decode cX2_feelHeat 51 = .ok (.istore_n 3, 1) := by decide +kernel
theorem dX2_feelHeat_52 : decode cX2_feelHeat 52 = .ok (.aload_n 0, 1) := by decide +kernel
theorem dX2_feelHeat_53 : decode cX2_feelHeat 53 = .ok (.getfield 18, 3) := by decide +kernel
theorem dX2_feelHeat_56 : decode cX2_feelHeat 56 = .ok (.iload_n 3, 1) := by decide +kernel
theorem dX2_feelHeat_57 : decode cX2_feelHeat 57 = .ok (.baload, 1) := by decide +kernel
theorem dX2_feelHeat_58 : decode cX2_feelHeat 58 = .ok (.ifCond .ne 6, 3) := by decide +kernel
theorem dX2_feelHeat_61 : decode cX2_feelHeat 61 = .ok (.goto 129, 3) := by decide +kernel
theorem dX2_feelHeat_64 : decode cX2_feelHeat 64 = .ok (.iload_n 1, 1) := by decide +kernel
theorem dX2_feelHeat_65 : decode cX2_feelHeat 65 = .ok (.ifCond .le 29, 3) := by decide +kernel
theorem dX2_feelHeat_68 : decode cX2_feelHeat 68 = .ok (.aload_n 0, 1) := by decide +kernel
theorem dX2_feelHeat_69 : decode cX2_feelHeat 69 = .ok (.getfield 22, 3) := by decide +kernel
theorem dX2_feelHeat_72 : decode cX2_feelHeat 72 = .ok (.iload_n 3, 1) := by decide +kernel
theorem dX2_feelHeat_73 : decode cX2_feelHeat 73 = .ok (.aload_n 0, 1) := by decide +kernel
theorem dX2_feelHeat_74 : decode cX2_feelHeat 74 = .ok (.getfield 37, 3) := by decide +kernel
theorem dX2_feelHeat_77 : decode cX2_feelHeat 77 = .ok (.isub, 1) := by decide +kernel
theorem dX2_feelHeat_78 : decode cX2_feelHeat 78 = .ok (.dup2, 1) := by decide +kernel
theorem dX2_feelHeat_79 : decode cX2_feelHeat 79 = .ok (.iaload, 1) := by decide +kernel
theorem dX2_feelHeat_80 : decode cX2_feelHeat 80 = .ok (.aload_n 0, 1) := by decide +kernel
theorem dX2_feelHeat_81 : decode cX2_feelHeat 81 = .ok (.getfield 9, 3) := by decide +kernel
theorem dX2_feelHeat_84 : decode cX2_feelHeat 84 = .ok (.iload_n 3, 1) := by decide +kernel
theorem dX2_feelHeat_85 : decode cX2_feelHeat 85 = .ok (.iaload, 1) := by decide +kernel
theorem dX2_feelHeat_86 : decode cX2_feelHeat 86 = .ok (.aload_n 0, 1) := by decide +kernel
theorem dX2_feelHeat_87 : decode cX2_feelHeat 87 = .ok (.iconst 0, 1) := by decide +kernel
theorem dX2_feelHeat_88 : decode cX2_feelHeat 88 = .ok (.invokevirtual 74, 3) := by decide +kernel
theorem dX2_feelHeat_91 : decode cX2_feelHeat 91 = .ok (.imul, 1) := by decide +kernel
theorem dX2_feelHeat_92 : decode cX2_feelHeat 92 = .ok (.iadd, 1) := by decide +kernel
theorem dX2_feelHeat_93 : decode cX2_feelHeat 93 = .ok (.iastore, 1) := by decide +kernel
theorem dX2_feelHeat_94 : decode cX2_feelHeat 94 = .ok (.iload_n 2, 1) := by decide +kernel
theorem dX2_feelHeat_95 : decode cX2_feelHeat 95 = .ok (.aload_n 0, 1) := by decide +kernel
theorem dX2_feelHeat_96 : decode cX2_feelHeat 96 = .ok (.getfield 37, 3) := by decide +kernel
theorem dX2_feelHeat_99 : decode cX2_feelHeat 99 = .ok (.iconst 1, 1) := by decide +kernel
theorem dX2_feelHeat_100 : decode cX2_feelHeat 100 = .ok (.isub, 1) := by decide +kernel
theorem dX2_feelHeat_101 : decode cX2_feelHeat 101 = .ok (.if_icmp .ge 26, 3) := by decide +kernel
theorem dX2_feelHeat_104 : decode cX2_feelHeat 104 = .ok (.aload_n 0, 1) := by decide +kernel
theorem dX2_feelHeat_105 : decode cX2_feelHeat 105 = .ok (.getfield 22, 3) := by decide +kernel
theorem dX2_feelHeat_108 : decode cX2_feelHeat 108 = .ok (.iload_n 3, 1) := by decide +kernel
theorem dX2_feelHeat_109 : decode cX2_feelHeat 109 = .ok (.iconst 1, 1) := by decide +kernel
theorem dX2_feelHeat_110 : decode cX2_feelHeat 110 = .ok (.iadd, 1) := by decide +kernel
theorem dX2_feelHeat_111 : decode cX2_feelHeat 111 = .ok (.dup2, 1) := by decide +kernel
theorem dX2_feelHeat_112 : decode cX2_feelHeat 112 = .ok (.iaload, 1) := by decide +kernel
theorem dX2_feelHeat_113 : decode cX2_feelHeat 113 = .ok (.aload_n 0, 1) := by decide +kernel
theorem dX2_feelHeat_114 : decode cX2_feelHeat 114 = .ok (.getfield 9, 3) := by decide +kernel
theorem dX2_feelHeat_117 : decode cX2_feelHeat 117 = .ok (.iload_n 3, 1) := by decide +kernel
theorem dX2_feelHeat_118 : decode cX2_feelHeat 118 = .ok (.iaload, 1) := by decide +kernel
theorem dX2_feelHeat_119 : decode cX2_feelHeat 119 = .ok (.aload_n 0, 1) := by decide +kernel
theorem dX2_feelHeat_120 : decode cX2_feelHeat 120 = .ok (.iconst 1, 1) := by decide +kernel
theorem dX2_feelHeat_121 : decode cX2_feelHeat 121 = .ok (.invokevirtual 74, 3) := by decide +kernel
theorem dX2_feelHeat_124 : decode cX2_feelHeat 124 = .ok (.imul, 1) := by decide +kernel
theorem dX2_feelHeat_125 : decode cX2_feelHeat 125 = .ok (.iadd, 1) := by decide +kernel
theorem dX2_feelHeat_126 : decode cX2_feelHeat 126 = .ok (.iastore, 1) := by decide +kernel
theorem dX2_feelHeat_127 : decode cX2_feelHeat 127 = .ok (.iload_n 1, 1) := by decide +kernel
theorem dX2_feelHeat_128 : decode cX2_feelHeat 128 = .ok (.aload_n 0, 1) := by decide +kernel
theorem dX2_feelHeat_129 : decode cX2_feelHeat 129 = .ok (.getfield 41, 3) := by decide +kernel
theorem dX2_feelHeat_132 : decode cX2_feelHeat 132 = .ok (.iconst 1, 1) := by decide +kernel
theorem dX2_feelHeat_133 : decode cX2_feelHeat 133 = .ok (.isub, 1) := by decide +kernel
theorem dX2_feelHeat_134 : decode cX2_feelHeat 134 = .ok (.if_icmp .ge 29, 3) := by decide +kernel
theorem dX2_feelHeat_137 : decode cX2_feelHeat 137 = .ok (.aload_n 0, 1) := by decide +kernel
theorem dX2_feelHeat_138 : decode cX2_feelHeat 138 = .ok (.getfield 22, 3) := by decide +kernel
theorem dX2_feelHeat_141 : decode cX2_feelHeat 141 = .ok (.iload_n 3, 1) := by decide +kernel
theorem dX2_feelHeat_142 : decode cX2_feelHeat 142 = .ok (.aload_n 0, 1) := by decide +kernel
theorem dX2_feelHeat_143 : decode cX2_feelHeat 143 = .ok (.getfield 37, 3) := by decide +kernel
theorem dX2_feelHeat_146 : decode cX2_feelHeat 146 = .ok (.iadd, 1) := by decide +kernel
theorem dX2_feelHeat_147 : decode cX2_feelHeat 147 = .ok (.dup2, 1) := by decide +kernel
theorem dX2_feelHeat_148 : decode cX2_feelHeat 148 = .ok (.iaload, 1) := by decide +kernel
theorem dX2_feelHeat_149 : decode cX2_feelHeat 149 = .ok (.aload_n 0, 1) := by decide +kernel
theorem dX2_feelHeat_150 : decode cX2_feelHeat 150 = .ok (.getfield 9, 3) := by decide +kernel
theorem dX2_feelHeat_153 : decode cX2_feelHeat 153 = .ok (.iload_n 3, 1) := by decide +kernel
theorem dX2_feelHeat_154 : decode cX2_feelHeat 154 = .ok (.iaload, 1) := by decide +kernel
theorem dX2_feelHeat_155 : decode cX2_feelHeat 155 = .ok (.aload_n 0, 1) := by decide +kernel
theorem dX2_feelHeat_156 : decode cX2_feelHeat 156 = .ok (.iconst 2, 1) := by decide +kernel
theorem dX2_feelHeat_157 : decode cX2_feelHeat 157 = .ok (.invokevirtual 74, 3) := by decide +kernel
theorem dX2_feelHeat_160 : decode cX2_feelHeat 160 = .ok (.imul, 1) := by decide +kernel
theorem dX2_feelHeat_161 : decode cX2_feelHeat 161 = .ok (.iadd, 1) := by decide +kernel
theorem dX2_feelHeat_162 : decode cX2_feelHeat 162 = .ok (.iastore, 1) := by decide +kernel
theorem dX2_feelHeat_163 : decode cX2_feelHeat 163 = .ok (.iload_n 2, 1) := by decide +kernel
theorem dX2_feelHeat_164 : decode cX2_feelHeat 164 = .ok (.ifCond .le 26, 3) := by decide +kernel
theorem dX2_feelHeat_167 : decode cX2_feelHeat 167 = .ok (.aload_n 0, 1) := by decide +kernel
theorem dX2_feelHeat_168 : decode cX2_feelHeat 168 = .ok (.getfield 22, 3) := by decide +kernel
theorem dX2_feelHeat_171 : decode cX2_feelHeat 171 = .ok (.iload_n 3, 1) := by decide +kernel
theorem dX2_feelHeat_172 : decode cX2_feelHeat 172 = .ok (.iconst 1, 1) := by decide +kernel
theorem dX2_feelHeat_173 : decode cX2_feelHeat 173 = .ok (.isub, 1) := by decide +kernel
theorem dX2_feelHeat_174 : decode cX2_feelHeat 174 = .ok (.dup2, 1) := by decide +kernel
theorem dX2_feelHeat_175 : decode cX2_feelHeat 175 = .ok (.iaload, 1) := by decide +kernel
theorem dX2_feelHeat_176 : decode cX2_feelHeat 176 = .ok (.aload_n 0, 1) := by decide +kernel
theorem dX2_feelHeat_177 : decode cX2_feelHeat 177 = .ok (.getfield 9, 3) := by decide +kernel
theorem dX2_feelHeat_180 : decode cX2_feelHeat 180 = .ok (.iload_n 3, 1) := by decide +kernel
theorem dX2_feelHeat_181 : decode cX2_feelHeat 181 = .ok (.iaload, 1) := by decide +kernel
theorem dX2_feelHeat_182 : decode cX2_feelHeat 182 = .ok (.aload_n 0, 1) := by decide +kernel
theorem dX2_feelHeat_183 : decode cX2_feelHeat 183 = .ok (.iconst 3, 1) := by decide +kernel
theorem dX2_feelHeat_184 : decode cX2_feelHeat 184 = .ok (.invokevirtual 74, 3) := by decide +kernel
theorem dX2_feelHeat_187 : decode cX2_feelHeat 187 = .ok (.imul, 1) := by decide +kernel
theorem dX2_feelHeat_188 : decode cX2_feelHeat 188 = .ok (.iadd, 1) := by decide +kernel
theorem dX2_feelHeat_189 : decode cX2_feelHeat 189 = .ok (.iastore, 1) := by decide +kernel
theorem dX2_feelHeat_190 : decode cX2_feelHeat 190 = .ok (.iinc 2 1, 3) := by decide +kernel
theorem dX2_feelHeat_193 : decode cX2_feelHeat 193 = .ok (.goto (-158), 3) := by decide +kernel
theorem dX2_feelHeat_196 : decode cX2_feelHeat 196 = .ok (.iinc 1 1, 3) := by decide +kernel
theorem dX2_feelHeat_199 : decode cX2_feelHeat 199 = .ok (.goto (-174), 3) := by decide +kernel
theorem dX2_feelHeat_202 : decode cX2_feelHeat 202 = .ok (.return_, 1) := by decide +kernel
set_option maxRecDepth 100000 in
theorem lp_feel0 {l : Launch} {dd : Nat} {Po : zPo} {K0 : zK} {h0 : List va_E} {Xo : zK → Prop} {Gc : zG → Prop} (t : Nat) (ad : Nat → Nat) (n : Nat) (sc : Nat → Int32) (fu we bu he se : Nat → Int32) (hn : n ≤ 64) (hsc : sc 2 = nI n)
    (hk : zS (l, mX2_feelHeat, dd, Po, K0, h0, Xo, Gc) 0 0 23 [(0, .ref t), (1, .int (nI n))] [] [(t, .inr (1, fFire ad sc)), (ad 1, .inl (0, 64, .inl fu)), (ad 2, .inl (0, 64, .inl we)), (ad 3, .inl (1, 64, .inl bu)), (ad 4, .inl (0, 64, .inl (pClr he n))), (ad 5, .inl (0, 60, .inl se))]) :
    ∀ (m i : Nat) , i + m = n → zS (l, mX2_feelHeat, dd, Po, K0, h0, Xo, Gc) 0 0 2 [(0, .ref t), (1, .int (nI i))] [] [(t, .inr (1, fFire ad sc)), (ad 1, .inl (0, 64, .inl fu)), (ad 2, .inl (0, 64, .inl we)), (ad 3, .inl (1, 64, .inl bu)), (ad 4, .inl (0, 64, .inl (pClr he i))), (ad 5, .inl (0, 60, .inl se))] := by
  intro m
  induction m with
  | zero =>
    intro i hi
    have hin : i = n := by omega
    subst hin
    refine zs_iload_n dX2_feelHeat_2 rfl ?_
    refine zs_aload_n dX2_feelHeat_3 rfl rfl ?_
    refine zs_get 0 dX2_feelHeat_4 zf_RX2_42 rfl (v := .int (sc 2)) rfl ?_
    refine zs_icmp_ge (tgt := 23) dX2_feelHeat_7 (by decide) (fun c_1 => ?_) (fun c_1 => (c_1 (by rw [hsc]; exact Int32.le_refl _) : False).elim)
    exact hk
  | succ m ih =>
    intro i hi
    have hil : i < n := by omega
    have hin : vp_in (nI i) 64 := vp_in_nI (by omega) (by omega)
    refine zs_iload_n dX2_feelHeat_2 rfl ?_
    refine zs_aload_n dX2_feelHeat_3 rfl rfl ?_
    refine zs_get 0 dX2_feelHeat_4 zf_RX2_42 rfl (v := .int (sc 2)) rfl ?_
    refine zs_icmp_ge (tgt := 23) dX2_feelHeat_7 (by decide) (fun c_1 => (nI_ge hil (by omega) (hsc ▸ c_1) : False).elim) (fun c_1 => ?_)
    refine zs_aload_n dX2_feelHeat_10 rfl rfl ?_
    refine zs_get 0 dX2_feelHeat_11 zf_RX2_22 rfl (v := .ref (ad 4)) rfl ?_
    refine zs_iload_n dX2_feelHeat_14 rfl ?_
    refine zs_iconst (v := 0) dX2_feelHeat_15 (by decide) ?_
    refine zs_iast 4 dX2_feelHeat_16 rfl hin ?_
    show zS _ _ _ _ _ _ [(t, .inr (1, fFire ad sc)), (ad 1, .inl (0, 64, .inl fu)), (ad 2, .inl (0, 64, .inl we)), (ad 3, .inl (1, 64, .inl bu)), (ad 4, .inl (0, 64, .inl (upd (pClr he i) (nI i).toNatClampNeg 0))), (ad 5, .inl (0, 60, .inl se))]
    rw [nI_c (n := i) (by omega)]
    refine zs_iinc (v := (nI (i + 1))) (lv' := [(1, .int (nI (i + 1))), (0, .ref t)]) dX2_feelHeat_17 rfl (nI_s1 i) (Nat.le_of_ble_eq_true rfl) rfl ?_
    refine zs_goto (tgt := 2) dX2_feelHeat_20 (by decide) ?_
    refine zs_lv [1, 0] rfl ?_
    exact ih (i + 1) (by omega)
set_option maxRecDepth 100000 in
theorem lp_feel2 {l : Launch} {dd : Nat} {Po : zPo} {K0 : zK} {h0 : List va_E} {Xo : zK → Prop} {Gc : zG → Prop} (t : Nat) (ad : Nat → Nat) (C R y : Nat) (sc : Nat → Int32) (fu we bu he se H : Nat → Int32) (hd : 1 ≤ dd) (hn : C * R ≤ 64) (hy : y < R) (hs0 : sc 0 = nI C) (hs1 : sc 1 = nI R)
    (hk : zS (l, mX2_feelHeat, dd, Po, K0, h0, Xo, Gc) 0 0 196 [(0, .ref t), (1, .int (nI y)), (2, .int (nI C))] [] [(t, .inr (1, fFire ad sc)), (ad 1, .inl (0, 64, .inl fu)), (ad 2, .inl (0, 64, .inl we)), (ad 3, .inl (1, 64, .inl bu)), (ad 4, .inl (0, 64, .inl (pHr C R (sc 3) fu bu y H C))), (ad 5, .inl (0, 60, .inl se))]) :
    ∀ (m i : Nat) , i + m = C → zS (l, mX2_feelHeat, dd, Po, K0, h0, Xo, Gc) 0 0 35 [(0, .ref t), (1, .int (nI y)), (2, .int (nI i))] [] [(t, .inr (1, fFire ad sc)), (ad 1, .inl (0, 64, .inl fu)), (ad 2, .inl (0, 64, .inl we)), (ad 3, .inl (1, 64, .inl bu)), (ad 4, .inl (0, 64, .inl (pHr C R (sc 3) fu bu y H i))), (ad 5, .inl (0, 60, .inl se))] := by
  intro m
  induction m with
  | zero =>
    intro i hi
    have hin : i = C := by omega
    subst hin
    refine zs_iload_n dX2_feelHeat_35 rfl ?_
    refine zs_aload_n dX2_feelHeat_36 rfl rfl ?_
    refine zs_get 0 dX2_feelHeat_37 zf_RX2_37 rfl (v := .int (sc 0)) rfl ?_
    refine zs_icmp_ge (tgt := 196) dX2_feelHeat_40 (by decide) (fun c_1 => ?_) (fun c_1 => (c_1 (by rw [hs0]; exact Int32.le_refl _) : False).elim)
    exact hk
  | succ m ih =>
    intro i hi
    have hil : i < C := by omega
    have hRC : y * C + C ≤ R * C := by have := Nat.mul_le_mul_right C hy; rw [Nat.succ_mul] at this; exact this
    have hCR : R * C = C * R := Nat.mul_comm R C
    have hR0 : R ≤ 64 := by have := Nat.le_mul_of_pos_left R (show 0 < C by omega); omega
    have hC0 : C ≤ 64 := by have := Nat.le_mul_of_pos_right C (show 0 < R by omega); omega
    refine zs_iload_n dX2_feelHeat_35 rfl ?_
    refine zs_aload_n dX2_feelHeat_36 rfl rfl ?_
    refine zs_get 0 dX2_feelHeat_37 zf_RX2_37 rfl (v := .int (sc 0)) rfl ?_
    refine zs_icmp_ge (tgt := 196) dX2_feelHeat_40 (by decide) (fun c_1 => (nI_ge hil (by omega) (hs0 ▸ c_1) : False).elim) (fun c_1 => ?_)
    refine zs_iload_n dX2_feelHeat_43 rfl ?_
    refine zs_aload_n dX2_feelHeat_44 rfl rfl ?_
    refine zs_get 0 dX2_feelHeat_45 zf_RX2_37 rfl (v := .int (sc 0)) rfl ?_
    refine zs_imul dX2_feelHeat_48 ?_
    refine zs_iload_n dX2_feelHeat_49 rfl ?_
    refine zs_iadd dX2_feelHeat_50 ?_
    refine zs_as (y := nI (y * C + i)) (by rw [hs0, nI_mul, nI_add]) ?_
    refine zs_istore_n (lv' := [(3, .int (nI (y * C + i))), (0, .ref t), (1, .int (nI y)), (2, .int (nI i))]) dX2_feelHeat_51 (Nat.le_of_ble_eq_true rfl) rfl ?_
    refine zs_aload_n dX2_feelHeat_52 rfl rfl ?_
    refine zs_get 0 dX2_feelHeat_53 zf_RX2_18 rfl (v := .ref (ad 3)) rfl ?_
    refine zs_iload_n dX2_feelHeat_56 rfl ?_
    refine zs_zald 3 dX2_feelHeat_57 rfl (vp_in_nI (by omega) (by omega)) ?_
    refine zs_as (y := bu (y * C + i)) (by rw [nI_c (by omega)]) ?_
    refine zs_if_ne (tgt := 64) dX2_feelHeat_58 (by decide) (fun c_2 => ?_) (fun c_2 => ?_)
    · have hb := c_2
      refine zs_iload_n dX2_feelHeat_64 rfl ?_
      refine zs_if_le (tgt := 94) dX2_feelHeat_65 (by decide) (fun c_3 => ?_) (fun c_3 => ?_)
      · have q1 : ¬ 0 < y := by have hc := c_3; rw [show (0 : Int32) = nI 0 from rfl] at hc; rw [nI_le' (by omega) (by omega)] at hc; omega
        refine zs_iload_n dX2_feelHeat_94 rfl ?_
        refine zs_aload_n dX2_feelHeat_95 rfl rfl ?_
        refine zs_get 0 dX2_feelHeat_96 zf_RX2_37 rfl (v := .int (sc 0)) rfl ?_
        refine zs_iconst (v := 1) dX2_feelHeat_99 (by decide) ?_
        refine zs_isub dX2_feelHeat_100 ?_
        refine zs_as (y := nI (C - 1)) (by rw [hs0]; exact nI_sub (b := 1) (by omega)) ?_
        refine zs_icmp_ge (tgt := 127) dX2_feelHeat_101 (by decide) (fun c_4 => ?_) (fun c_4 => ?_)
        · have q2 : ¬ i + 1 < C := by have hc := c_4; rw [nI_le' (by omega) (by omega)] at hc; omega
          refine zs_iload_n dX2_feelHeat_127 rfl ?_
          refine zs_aload_n dX2_feelHeat_128 rfl rfl ?_
          refine zs_get 0 dX2_feelHeat_129 zf_RX2_41 rfl (v := .int (sc 1)) rfl ?_
          refine zs_iconst (v := 1) dX2_feelHeat_132 (by decide) ?_
          refine zs_isub dX2_feelHeat_133 ?_
          refine zs_as (y := nI (R - 1)) (by rw [hs1]; exact nI_sub (b := 1) (by omega)) ?_
          refine zs_icmp_ge (tgt := 163) dX2_feelHeat_134 (by decide) (fun c_5 => ?_) (fun c_5 => ?_)
          · have q3 : ¬ y + 1 < R := by have hc := c_5; rw [nI_le' (by omega) (by omega)] at hc; omega
            refine zs_iload_n dX2_feelHeat_163 rfl ?_
            refine zs_if_le (tgt := 190) dX2_feelHeat_164 (by decide) (fun c_6 => ?_) (fun c_6 => ?_)
            · have q4 : ¬ 0 < i := by have hc := c_6; rw [show (0 : Int32) = nI 0 from rfl] at hc; rw [nI_le' (by omega) (by omega)] at hc; omega
              refine zs_iinc (v := (nI (i + 1))) (lv' := [(2, .int (nI (i + 1))), (3, .int (nI (y * C + i))), (0, .ref t), (1, .int (nI y))]) dX2_feelHeat_190 rfl (nI_s1 i) (Nat.le_of_ble_eq_true rfl) rfl ?_
              refine zs_goto (tgt := 35) dX2_feelHeat_193 (by decide) ?_
              have hE : (pHr C R (sc 3) fu bu y H i) = pHr C R (sc 3) fu bu y H (i + 1) := (by simp only [pHr]; rw [if_neg hb]; simp only [pHs, if_neg q1, if_neg q2, if_neg q3, if_neg q4])
              rw [hE]
              refine zs_lv [2, 3, 0] rfl ?_
              exact ih (i + 1) (by omega)
            · have q4 : 0 < i := by have hc := c_6; rw [show (0 : Int32) = nI 0 from rfl] at hc; rw [nI_le' (by omega) (by omega)] at hc; omega
              refine zs_aload_n dX2_feelHeat_167 rfl rfl ?_
              refine zs_get 0 dX2_feelHeat_168 zf_RX2_22 rfl (v := .ref (ad 4)) rfl ?_
              refine zs_iload_n dX2_feelHeat_171 rfl ?_
              refine zs_iconst (v := 1) dX2_feelHeat_172 (by decide) ?_
              refine zs_isub dX2_feelHeat_173 ?_
              refine zs_as (y := nI (y * C + i - 1)) (nI_sub (b := 1) (by omega)) ?_
              refine zs_dup2 dX2_feelHeat_174 rfl rfl ?_
              refine zs_iald 4 dX2_feelHeat_175 rfl (vp_in_nI (by omega) (by omega)) ?_
              refine zs_as (y := (pHr C R (sc 3) fu bu y H i) (y * C + i - 1)) (by rw [nI_c (by omega)]) ?_
              refine zs_aload_n dX2_feelHeat_176 rfl rfl ?_
              refine zs_get 0 dX2_feelHeat_177 zf_RX2_9 rfl (v := .ref (ad 1)) rfl ?_
              refine zs_iload_n dX2_feelHeat_180 rfl ?_
              refine zs_iald 1 dX2_feelHeat_181 rfl (vp_in_nI (by omega) (by omega)) ?_
              refine zs_as (y := fu (y * C + i)) (by rw [nI_c (by omega)]) ?_
              refine zs_aload_n dX2_feelHeat_182 rfl rfl ?_
              refine zs_iconst (v := 3) dX2_feelHeat_183 (by decide) ?_
              refine zs_callV (M := mX2_windTo) (As := [.int 3]) (st := [.int (fu (y * C + i)), .int ((pHr C R (sc 3) fu bu y H i) (y * C + i - 1)), .int (nI (y * C + i - 1)), .ref (ad 4)]) (Kc := [(t, .inr (1, fFire ad sc))]) (Kr := [(ad 1, .inl (0, 64, .inl fu)), (ad 2, .inl (0, 64, .inl we)), (ad 3, .inl (1, 64, .inl bu)), (ad 4, .inl (0, 64, .inl (pHr C R (sc 3) fu bu y H i))), (ad 5, .inl (0, 60, .inl se))]) [0] [1, 2, 3, 4, 5] 0 dX2_feelHeat_184 zl_RX2_74 kX2_windTo rfl rfl rfl rfl rfl (by decide) rfl rfl (show dd - 1 + 1 ≤ dd by omega) (Nat.zero_le _) (Nat.zero_le _) (Nat.le_of_ble_eq_true rfl) (s_windTo l (dd - 1) t ad sc 3) (fun r K1 hr => ?_)
              obtain ⟨rfl, rfl⟩ := hr
              refine zs_K (K' := [(t, .inr (1, fFire ad sc)), (ad 1, .inl (0, 64, .inl fu)), (ad 2, .inl (0, 64, .inl we)), (ad 3, .inl (1, 64, .inl bu)), (ad 4, .inl (0, 64, .inl (pHr C R (sc 3) fu bu y H i))), (ad 5, .inl (0, 60, .inl se))]) [5, 0, 1, 2, 3, 4] rfl (by decide) ?_
              refine zs_imul dX2_feelHeat_187 ?_
              refine zs_iadd dX2_feelHeat_188 ?_
              refine zs_iast 4 dX2_feelHeat_189 rfl (vp_in_nI (by omega) (by omega)) ?_
              show zS _ _ _ _ _ _ [(t, .inr (1, fFire ad sc)), (ad 1, .inl (0, 64, .inl fu)), (ad 2, .inl (0, 64, .inl we)), (ad 3, .inl (1, 64, .inl bu)), (ad 4, .inl (0, 64, .inl (upd (pHr C R (sc 3) fu bu y H i) (nI (y * C + i - 1)).toNatClampNeg (((pHr C R (sc 3) fu bu y H i) (y * C + i - 1)) + ((fu (y * C + i)) * (pWind (sc 3) 3)))))), (ad 5, .inl (0, 60, .inl se))]
              rw [nI_c (n := y * C + i - 1) (by omega)]
              refine zs_iinc (v := (nI (i + 1))) (lv' := [(2, .int (nI (i + 1))), (3, .int (nI (y * C + i))), (0, .ref t), (1, .int (nI y))]) dX2_feelHeat_190 rfl (nI_s1 i) (Nat.le_of_ble_eq_true rfl) rfl ?_
              refine zs_goto (tgt := 35) dX2_feelHeat_193 (by decide) ?_
              have hE : (upd (pHr C R (sc 3) fu bu y H i) (y * C + i - 1) (((pHr C R (sc 3) fu bu y H i) (y * C + i - 1)) + ((fu (y * C + i)) * (pWind (sc 3) 3)))) = pHr C R (sc 3) fu bu y H (i + 1) := (by simp only [pHr]; rw [if_neg hb]; simp only [pHs, if_neg q1, if_neg q2, if_neg q3, if_pos q4])
              rw [hE]
              refine zs_lv [2, 3, 0] rfl ?_
              exact ih (i + 1) (by omega)
          · have q3 : y + 1 < R := by have hc := c_5; rw [nI_le' (by omega) (by omega)] at hc; omega
            have q3C : y * C + C + C ≤ R * C := by have e2 : (y + 2) * C ≤ R * C := Nat.mul_le_mul_right C (by omega); rw [Nat.add_mul, Nat.two_mul] at e2; omega
            refine zs_aload_n dX2_feelHeat_137 rfl rfl ?_
            refine zs_get 0 dX2_feelHeat_138 zf_RX2_22 rfl (v := .ref (ad 4)) rfl ?_
            refine zs_iload_n dX2_feelHeat_141 rfl ?_
            refine zs_aload_n dX2_feelHeat_142 rfl rfl ?_
            refine zs_get 0 dX2_feelHeat_143 zf_RX2_37 rfl (v := .int (sc 0)) rfl ?_
            refine zs_iadd dX2_feelHeat_146 ?_
            refine zs_as (y := nI (y * C + i + C)) (by rw [hs0, nI_add]) ?_
            refine zs_dup2 dX2_feelHeat_147 rfl rfl ?_
            refine zs_iald 4 dX2_feelHeat_148 rfl (vp_in_nI (by omega) (by omega)) ?_
            refine zs_as (y := (pHr C R (sc 3) fu bu y H i) (y * C + i + C)) (by rw [nI_c (by omega)]) ?_
            refine zs_aload_n dX2_feelHeat_149 rfl rfl ?_
            refine zs_get 0 dX2_feelHeat_150 zf_RX2_9 rfl (v := .ref (ad 1)) rfl ?_
            refine zs_iload_n dX2_feelHeat_153 rfl ?_
            refine zs_iald 1 dX2_feelHeat_154 rfl (vp_in_nI (by omega) (by omega)) ?_
            refine zs_as (y := fu (y * C + i)) (by rw [nI_c (by omega)]) ?_
            refine zs_aload_n dX2_feelHeat_155 rfl rfl ?_
            refine zs_iconst (v := 2) dX2_feelHeat_156 (by decide) ?_
            refine zs_callV (M := mX2_windTo) (As := [.int 2]) (st := [.int (fu (y * C + i)), .int ((pHr C R (sc 3) fu bu y H i) (y * C + i + C)), .int (nI (y * C + i + C)), .ref (ad 4)]) (Kc := [(t, .inr (1, fFire ad sc))]) (Kr := [(ad 1, .inl (0, 64, .inl fu)), (ad 2, .inl (0, 64, .inl we)), (ad 3, .inl (1, 64, .inl bu)), (ad 4, .inl (0, 64, .inl (pHr C R (sc 3) fu bu y H i))), (ad 5, .inl (0, 60, .inl se))]) [0] [1, 2, 3, 4, 5] 0 dX2_feelHeat_157 zl_RX2_74 kX2_windTo rfl rfl rfl rfl rfl (by decide) rfl rfl (show dd - 1 + 1 ≤ dd by omega) (Nat.zero_le _) (Nat.zero_le _) (Nat.le_of_ble_eq_true rfl) (s_windTo l (dd - 1) t ad sc 2) (fun r K1 hr => ?_)
            obtain ⟨rfl, rfl⟩ := hr
            refine zs_K (K' := [(t, .inr (1, fFire ad sc)), (ad 1, .inl (0, 64, .inl fu)), (ad 2, .inl (0, 64, .inl we)), (ad 3, .inl (1, 64, .inl bu)), (ad 4, .inl (0, 64, .inl (pHr C R (sc 3) fu bu y H i))), (ad 5, .inl (0, 60, .inl se))]) [5, 0, 1, 2, 3, 4] rfl (by decide) ?_
            refine zs_imul dX2_feelHeat_160 ?_
            refine zs_iadd dX2_feelHeat_161 ?_
            refine zs_iast 4 dX2_feelHeat_162 rfl (vp_in_nI (by omega) (by omega)) ?_
            show zS _ _ _ _ _ _ [(t, .inr (1, fFire ad sc)), (ad 1, .inl (0, 64, .inl fu)), (ad 2, .inl (0, 64, .inl we)), (ad 3, .inl (1, 64, .inl bu)), (ad 4, .inl (0, 64, .inl (upd (pHr C R (sc 3) fu bu y H i) (nI (y * C + i + C)).toNatClampNeg (((pHr C R (sc 3) fu bu y H i) (y * C + i + C)) + ((fu (y * C + i)) * (pWind (sc 3) 2)))))), (ad 5, .inl (0, 60, .inl se))]
            rw [nI_c (n := y * C + i + C) (by omega)]
            refine zs_iload_n dX2_feelHeat_163 rfl ?_
            refine zs_if_le (tgt := 190) dX2_feelHeat_164 (by decide) (fun c_7 => ?_) (fun c_7 => ?_)
            · have q4 : ¬ 0 < i := by have hc := c_7; rw [show (0 : Int32) = nI 0 from rfl] at hc; rw [nI_le' (by omega) (by omega)] at hc; omega
              refine zs_iinc (v := (nI (i + 1))) (lv' := [(2, .int (nI (i + 1))), (3, .int (nI (y * C + i))), (0, .ref t), (1, .int (nI y))]) dX2_feelHeat_190 rfl (nI_s1 i) (Nat.le_of_ble_eq_true rfl) rfl ?_
              refine zs_goto (tgt := 35) dX2_feelHeat_193 (by decide) ?_
              have hE : (upd (pHr C R (sc 3) fu bu y H i) (y * C + i + C) (((pHr C R (sc 3) fu bu y H i) (y * C + i + C)) + ((fu (y * C + i)) * (pWind (sc 3) 2)))) = pHr C R (sc 3) fu bu y H (i + 1) := (by simp only [pHr]; rw [if_neg hb]; simp only [pHs, if_neg q1, if_neg q2, if_pos q3, if_neg q4])
              rw [hE]
              refine zs_lv [2, 3, 0] rfl ?_
              exact ih (i + 1) (by omega)
            · have q4 : 0 < i := by have hc := c_7; rw [show (0 : Int32) = nI 0 from rfl] at hc; rw [nI_le' (by omega) (by omega)] at hc; omega
              refine zs_aload_n dX2_feelHeat_167 rfl rfl ?_
              refine zs_get 0 dX2_feelHeat_168 zf_RX2_22 rfl (v := .ref (ad 4)) rfl ?_
              refine zs_iload_n dX2_feelHeat_171 rfl ?_
              refine zs_iconst (v := 1) dX2_feelHeat_172 (by decide) ?_
              refine zs_isub dX2_feelHeat_173 ?_
              refine zs_as (y := nI (y * C + i - 1)) (nI_sub (b := 1) (by omega)) ?_
              refine zs_dup2 dX2_feelHeat_174 rfl rfl ?_
              refine zs_iald 4 dX2_feelHeat_175 rfl (vp_in_nI (by omega) (by omega)) ?_
              refine zs_as (y := (upd (pHr C R (sc 3) fu bu y H i) (y * C + i + C) (((pHr C R (sc 3) fu bu y H i) (y * C + i + C)) + ((fu (y * C + i)) * (pWind (sc 3) 2)))) (y * C + i - 1)) (by rw [nI_c (by omega)]) ?_
              refine zs_aload_n dX2_feelHeat_176 rfl rfl ?_
              refine zs_get 0 dX2_feelHeat_177 zf_RX2_9 rfl (v := .ref (ad 1)) rfl ?_
              refine zs_iload_n dX2_feelHeat_180 rfl ?_
              refine zs_iald 1 dX2_feelHeat_181 rfl (vp_in_nI (by omega) (by omega)) ?_
              refine zs_as (y := fu (y * C + i)) (by rw [nI_c (by omega)]) ?_
              refine zs_aload_n dX2_feelHeat_182 rfl rfl ?_
              refine zs_iconst (v := 3) dX2_feelHeat_183 (by decide) ?_
              refine zs_callV (M := mX2_windTo) (As := [.int 3]) (st := [.int (fu (y * C + i)), .int ((upd (pHr C R (sc 3) fu bu y H i) (y * C + i + C) (((pHr C R (sc 3) fu bu y H i) (y * C + i + C)) + ((fu (y * C + i)) * (pWind (sc 3) 2)))) (y * C + i - 1)), .int (nI (y * C + i - 1)), .ref (ad 4)]) (Kc := [(t, .inr (1, fFire ad sc))]) (Kr := [(ad 1, .inl (0, 64, .inl fu)), (ad 2, .inl (0, 64, .inl we)), (ad 3, .inl (1, 64, .inl bu)), (ad 4, .inl (0, 64, .inl (upd (pHr C R (sc 3) fu bu y H i) (y * C + i + C) (((pHr C R (sc 3) fu bu y H i) (y * C + i + C)) + ((fu (y * C + i)) * (pWind (sc 3) 2)))))), (ad 5, .inl (0, 60, .inl se))]) [0] [1, 2, 3, 4, 5] 0 dX2_feelHeat_184 zl_RX2_74 kX2_windTo rfl rfl rfl rfl rfl (by decide) rfl rfl (show dd - 1 + 1 ≤ dd by omega) (Nat.zero_le _) (Nat.zero_le _) (Nat.le_of_ble_eq_true rfl) (s_windTo l (dd - 1) t ad sc 3) (fun r K1 hr => ?_)
              obtain ⟨rfl, rfl⟩ := hr
              refine zs_K (K' := [(t, .inr (1, fFire ad sc)), (ad 1, .inl (0, 64, .inl fu)), (ad 2, .inl (0, 64, .inl we)), (ad 3, .inl (1, 64, .inl bu)), (ad 4, .inl (0, 64, .inl (upd (pHr C R (sc 3) fu bu y H i) (y * C + i + C) (((pHr C R (sc 3) fu bu y H i) (y * C + i + C)) + ((fu (y * C + i)) * (pWind (sc 3) 2)))))), (ad 5, .inl (0, 60, .inl se))]) [5, 0, 1, 2, 3, 4] rfl (by decide) ?_
              refine zs_imul dX2_feelHeat_187 ?_
              refine zs_iadd dX2_feelHeat_188 ?_
              refine zs_iast 4 dX2_feelHeat_189 rfl (vp_in_nI (by omega) (by omega)) ?_
              show zS _ _ _ _ _ _ [(t, .inr (1, fFire ad sc)), (ad 1, .inl (0, 64, .inl fu)), (ad 2, .inl (0, 64, .inl we)), (ad 3, .inl (1, 64, .inl bu)), (ad 4, .inl (0, 64, .inl (upd (upd (pHr C R (sc 3) fu bu y H i) (y * C + i + C) (((pHr C R (sc 3) fu bu y H i) (y * C + i + C)) + ((fu (y * C + i)) * (pWind (sc 3) 2)))) (nI (y * C + i - 1)).toNatClampNeg (((upd (pHr C R (sc 3) fu bu y H i) (y * C + i + C) (((pHr C R (sc 3) fu bu y H i) (y * C + i + C)) + ((fu (y * C + i)) * (pWind (sc 3) 2)))) (y * C + i - 1)) + ((fu (y * C + i)) * (pWind (sc 3) 3)))))), (ad 5, .inl (0, 60, .inl se))]
              rw [nI_c (n := y * C + i - 1) (by omega)]
              refine zs_iinc (v := (nI (i + 1))) (lv' := [(2, .int (nI (i + 1))), (3, .int (nI (y * C + i))), (0, .ref t), (1, .int (nI y))]) dX2_feelHeat_190 rfl (nI_s1 i) (Nat.le_of_ble_eq_true rfl) rfl ?_
              refine zs_goto (tgt := 35) dX2_feelHeat_193 (by decide) ?_
              have hE : (upd (upd (pHr C R (sc 3) fu bu y H i) (y * C + i + C) (((pHr C R (sc 3) fu bu y H i) (y * C + i + C)) + ((fu (y * C + i)) * (pWind (sc 3) 2)))) (y * C + i - 1) (((upd (pHr C R (sc 3) fu bu y H i) (y * C + i + C) (((pHr C R (sc 3) fu bu y H i) (y * C + i + C)) + ((fu (y * C + i)) * (pWind (sc 3) 2)))) (y * C + i - 1)) + ((fu (y * C + i)) * (pWind (sc 3) 3)))) = pHr C R (sc 3) fu bu y H (i + 1) := (by simp only [pHr]; rw [if_neg hb]; simp only [pHs, if_neg q1, if_neg q2, if_pos q3, if_pos q4])
              rw [hE]
              refine zs_lv [2, 3, 0] rfl ?_
              exact ih (i + 1) (by omega)
        · have q2 : i + 1 < C := by have hc := c_4; rw [nI_le' (by omega) (by omega)] at hc; omega
          refine zs_aload_n dX2_feelHeat_104 rfl rfl ?_
          refine zs_get 0 dX2_feelHeat_105 zf_RX2_22 rfl (v := .ref (ad 4)) rfl ?_
          refine zs_iload_n dX2_feelHeat_108 rfl ?_
          refine zs_iconst (v := 1) dX2_feelHeat_109 (by decide) ?_
          refine zs_iadd dX2_feelHeat_110 ?_
          refine zs_as (y := nI (y * C + i + 1)) (nI_s1 _) ?_
          refine zs_dup2 dX2_feelHeat_111 rfl rfl ?_
          refine zs_iald 4 dX2_feelHeat_112 rfl (vp_in_nI (by omega) (by omega)) ?_
          refine zs_as (y := (pHr C R (sc 3) fu bu y H i) (y * C + i + 1)) (by rw [nI_c (by omega)]) ?_
          refine zs_aload_n dX2_feelHeat_113 rfl rfl ?_
          refine zs_get 0 dX2_feelHeat_114 zf_RX2_9 rfl (v := .ref (ad 1)) rfl ?_
          refine zs_iload_n dX2_feelHeat_117 rfl ?_
          refine zs_iald 1 dX2_feelHeat_118 rfl (vp_in_nI (by omega) (by omega)) ?_
          refine zs_as (y := fu (y * C + i)) (by rw [nI_c (by omega)]) ?_
          refine zs_aload_n dX2_feelHeat_119 rfl rfl ?_
          refine zs_iconst (v := 1) dX2_feelHeat_120 (by decide) ?_
          refine zs_callV (M := mX2_windTo) (As := [.int 1]) (st := [.int (fu (y * C + i)), .int ((pHr C R (sc 3) fu bu y H i) (y * C + i + 1)), .int (nI (y * C + i + 1)), .ref (ad 4)]) (Kc := [(t, .inr (1, fFire ad sc))]) (Kr := [(ad 1, .inl (0, 64, .inl fu)), (ad 2, .inl (0, 64, .inl we)), (ad 3, .inl (1, 64, .inl bu)), (ad 4, .inl (0, 64, .inl (pHr C R (sc 3) fu bu y H i))), (ad 5, .inl (0, 60, .inl se))]) [0] [1, 2, 3, 4, 5] 0 dX2_feelHeat_121 zl_RX2_74 kX2_windTo rfl rfl rfl rfl rfl (by decide) rfl rfl (show dd - 1 + 1 ≤ dd by omega) (Nat.zero_le _) (Nat.zero_le _) (Nat.le_of_ble_eq_true rfl) (s_windTo l (dd - 1) t ad sc 1) (fun r K1 hr => ?_)
          obtain ⟨rfl, rfl⟩ := hr
          refine zs_K (K' := [(t, .inr (1, fFire ad sc)), (ad 1, .inl (0, 64, .inl fu)), (ad 2, .inl (0, 64, .inl we)), (ad 3, .inl (1, 64, .inl bu)), (ad 4, .inl (0, 64, .inl (pHr C R (sc 3) fu bu y H i))), (ad 5, .inl (0, 60, .inl se))]) [5, 0, 1, 2, 3, 4] rfl (by decide) ?_
          refine zs_imul dX2_feelHeat_124 ?_
          refine zs_iadd dX2_feelHeat_125 ?_
          refine zs_iast 4 dX2_feelHeat_126 rfl (vp_in_nI (by omega) (by omega)) ?_
          show zS _ _ _ _ _ _ [(t, .inr (1, fFire ad sc)), (ad 1, .inl (0, 64, .inl fu)), (ad 2, .inl (0, 64, .inl we)), (ad 3, .inl (1, 64, .inl bu)), (ad 4, .inl (0, 64, .inl (upd (pHr C R (sc 3) fu bu y H i) (nI (y * C + i + 1)).toNatClampNeg (((pHr C R (sc 3) fu bu y H i) (y * C + i + 1)) + ((fu (y * C + i)) * (pWind (sc 3) 1)))))), (ad 5, .inl (0, 60, .inl se))]
          rw [nI_c (n := y * C + i + 1) (by omega)]
          refine zs_iload_n dX2_feelHeat_127 rfl ?_
          refine zs_aload_n dX2_feelHeat_128 rfl rfl ?_
          refine zs_get 0 dX2_feelHeat_129 zf_RX2_41 rfl (v := .int (sc 1)) rfl ?_
          refine zs_iconst (v := 1) dX2_feelHeat_132 (by decide) ?_
          refine zs_isub dX2_feelHeat_133 ?_
          refine zs_as (y := nI (R - 1)) (by rw [hs1]; exact nI_sub (b := 1) (by omega)) ?_
          refine zs_icmp_ge (tgt := 163) dX2_feelHeat_134 (by decide) (fun c_8 => ?_) (fun c_8 => ?_)
          · have q3 : ¬ y + 1 < R := by have hc := c_8; rw [nI_le' (by omega) (by omega)] at hc; omega
            refine zs_iload_n dX2_feelHeat_163 rfl ?_
            refine zs_if_le (tgt := 190) dX2_feelHeat_164 (by decide) (fun c_9 => ?_) (fun c_9 => ?_)
            · have q4 : ¬ 0 < i := by have hc := c_9; rw [show (0 : Int32) = nI 0 from rfl] at hc; rw [nI_le' (by omega) (by omega)] at hc; omega
              refine zs_iinc (v := (nI (i + 1))) (lv' := [(2, .int (nI (i + 1))), (3, .int (nI (y * C + i))), (0, .ref t), (1, .int (nI y))]) dX2_feelHeat_190 rfl (nI_s1 i) (Nat.le_of_ble_eq_true rfl) rfl ?_
              refine zs_goto (tgt := 35) dX2_feelHeat_193 (by decide) ?_
              have hE : (upd (pHr C R (sc 3) fu bu y H i) (y * C + i + 1) (((pHr C R (sc 3) fu bu y H i) (y * C + i + 1)) + ((fu (y * C + i)) * (pWind (sc 3) 1)))) = pHr C R (sc 3) fu bu y H (i + 1) := (by simp only [pHr]; rw [if_neg hb]; simp only [pHs, if_neg q1, if_pos q2, if_neg q3, if_neg q4])
              rw [hE]
              refine zs_lv [2, 3, 0] rfl ?_
              exact ih (i + 1) (by omega)
            · have q4 : 0 < i := by have hc := c_9; rw [show (0 : Int32) = nI 0 from rfl] at hc; rw [nI_le' (by omega) (by omega)] at hc; omega
              refine zs_aload_n dX2_feelHeat_167 rfl rfl ?_
              refine zs_get 0 dX2_feelHeat_168 zf_RX2_22 rfl (v := .ref (ad 4)) rfl ?_
              refine zs_iload_n dX2_feelHeat_171 rfl ?_
              refine zs_iconst (v := 1) dX2_feelHeat_172 (by decide) ?_
              refine zs_isub dX2_feelHeat_173 ?_
              refine zs_as (y := nI (y * C + i - 1)) (nI_sub (b := 1) (by omega)) ?_
              refine zs_dup2 dX2_feelHeat_174 rfl rfl ?_
              refine zs_iald 4 dX2_feelHeat_175 rfl (vp_in_nI (by omega) (by omega)) ?_
              refine zs_as (y := (upd (pHr C R (sc 3) fu bu y H i) (y * C + i + 1) (((pHr C R (sc 3) fu bu y H i) (y * C + i + 1)) + ((fu (y * C + i)) * (pWind (sc 3) 1)))) (y * C + i - 1)) (by rw [nI_c (by omega)]) ?_
              refine zs_aload_n dX2_feelHeat_176 rfl rfl ?_
              refine zs_get 0 dX2_feelHeat_177 zf_RX2_9 rfl (v := .ref (ad 1)) rfl ?_
              refine zs_iload_n dX2_feelHeat_180 rfl ?_
              refine zs_iald 1 dX2_feelHeat_181 rfl (vp_in_nI (by omega) (by omega)) ?_
              refine zs_as (y := fu (y * C + i)) (by rw [nI_c (by omega)]) ?_
              refine zs_aload_n dX2_feelHeat_182 rfl rfl ?_
              refine zs_iconst (v := 3) dX2_feelHeat_183 (by decide) ?_
              refine zs_callV (M := mX2_windTo) (As := [.int 3]) (st := [.int (fu (y * C + i)), .int ((upd (pHr C R (sc 3) fu bu y H i) (y * C + i + 1) (((pHr C R (sc 3) fu bu y H i) (y * C + i + 1)) + ((fu (y * C + i)) * (pWind (sc 3) 1)))) (y * C + i - 1)), .int (nI (y * C + i - 1)), .ref (ad 4)]) (Kc := [(t, .inr (1, fFire ad sc))]) (Kr := [(ad 1, .inl (0, 64, .inl fu)), (ad 2, .inl (0, 64, .inl we)), (ad 3, .inl (1, 64, .inl bu)), (ad 4, .inl (0, 64, .inl (upd (pHr C R (sc 3) fu bu y H i) (y * C + i + 1) (((pHr C R (sc 3) fu bu y H i) (y * C + i + 1)) + ((fu (y * C + i)) * (pWind (sc 3) 1)))))), (ad 5, .inl (0, 60, .inl se))]) [0] [1, 2, 3, 4, 5] 0 dX2_feelHeat_184 zl_RX2_74 kX2_windTo rfl rfl rfl rfl rfl (by decide) rfl rfl (show dd - 1 + 1 ≤ dd by omega) (Nat.zero_le _) (Nat.zero_le _) (Nat.le_of_ble_eq_true rfl) (s_windTo l (dd - 1) t ad sc 3) (fun r K1 hr => ?_)
              obtain ⟨rfl, rfl⟩ := hr
              refine zs_K (K' := [(t, .inr (1, fFire ad sc)), (ad 1, .inl (0, 64, .inl fu)), (ad 2, .inl (0, 64, .inl we)), (ad 3, .inl (1, 64, .inl bu)), (ad 4, .inl (0, 64, .inl (upd (pHr C R (sc 3) fu bu y H i) (y * C + i + 1) (((pHr C R (sc 3) fu bu y H i) (y * C + i + 1)) + ((fu (y * C + i)) * (pWind (sc 3) 1)))))), (ad 5, .inl (0, 60, .inl se))]) [5, 0, 1, 2, 3, 4] rfl (by decide) ?_
              refine zs_imul dX2_feelHeat_187 ?_
              refine zs_iadd dX2_feelHeat_188 ?_
              refine zs_iast 4 dX2_feelHeat_189 rfl (vp_in_nI (by omega) (by omega)) ?_
              show zS _ _ _ _ _ _ [(t, .inr (1, fFire ad sc)), (ad 1, .inl (0, 64, .inl fu)), (ad 2, .inl (0, 64, .inl we)), (ad 3, .inl (1, 64, .inl bu)), (ad 4, .inl (0, 64, .inl (upd (upd (pHr C R (sc 3) fu bu y H i) (y * C + i + 1) (((pHr C R (sc 3) fu bu y H i) (y * C + i + 1)) + ((fu (y * C + i)) * (pWind (sc 3) 1)))) (nI (y * C + i - 1)).toNatClampNeg (((upd (pHr C R (sc 3) fu bu y H i) (y * C + i + 1) (((pHr C R (sc 3) fu bu y H i) (y * C + i + 1)) + ((fu (y * C + i)) * (pWind (sc 3) 1)))) (y * C + i - 1)) + ((fu (y * C + i)) * (pWind (sc 3) 3)))))), (ad 5, .inl (0, 60, .inl se))]
              rw [nI_c (n := y * C + i - 1) (by omega)]
              refine zs_iinc (v := (nI (i + 1))) (lv' := [(2, .int (nI (i + 1))), (3, .int (nI (y * C + i))), (0, .ref t), (1, .int (nI y))]) dX2_feelHeat_190 rfl (nI_s1 i) (Nat.le_of_ble_eq_true rfl) rfl ?_
              refine zs_goto (tgt := 35) dX2_feelHeat_193 (by decide) ?_
              have hE : (upd (upd (pHr C R (sc 3) fu bu y H i) (y * C + i + 1) (((pHr C R (sc 3) fu bu y H i) (y * C + i + 1)) + ((fu (y * C + i)) * (pWind (sc 3) 1)))) (y * C + i - 1) (((upd (pHr C R (sc 3) fu bu y H i) (y * C + i + 1) (((pHr C R (sc 3) fu bu y H i) (y * C + i + 1)) + ((fu (y * C + i)) * (pWind (sc 3) 1)))) (y * C + i - 1)) + ((fu (y * C + i)) * (pWind (sc 3) 3)))) = pHr C R (sc 3) fu bu y H (i + 1) := (by simp only [pHr]; rw [if_neg hb]; simp only [pHs, if_neg q1, if_pos q2, if_neg q3, if_pos q4])
              rw [hE]
              refine zs_lv [2, 3, 0] rfl ?_
              exact ih (i + 1) (by omega)
          · have q3 : y + 1 < R := by have hc := c_8; rw [nI_le' (by omega) (by omega)] at hc; omega
            have q3C : y * C + C + C ≤ R * C := by have e2 : (y + 2) * C ≤ R * C := Nat.mul_le_mul_right C (by omega); rw [Nat.add_mul, Nat.two_mul] at e2; omega
            refine zs_aload_n dX2_feelHeat_137 rfl rfl ?_
            refine zs_get 0 dX2_feelHeat_138 zf_RX2_22 rfl (v := .ref (ad 4)) rfl ?_
            refine zs_iload_n dX2_feelHeat_141 rfl ?_
            refine zs_aload_n dX2_feelHeat_142 rfl rfl ?_
            refine zs_get 0 dX2_feelHeat_143 zf_RX2_37 rfl (v := .int (sc 0)) rfl ?_
            refine zs_iadd dX2_feelHeat_146 ?_
            refine zs_as (y := nI (y * C + i + C)) (by rw [hs0, nI_add]) ?_
            refine zs_dup2 dX2_feelHeat_147 rfl rfl ?_
            refine zs_iald 4 dX2_feelHeat_148 rfl (vp_in_nI (by omega) (by omega)) ?_
            refine zs_as (y := (upd (pHr C R (sc 3) fu bu y H i) (y * C + i + 1) (((pHr C R (sc 3) fu bu y H i) (y * C + i + 1)) + ((fu (y * C + i)) * (pWind (sc 3) 1)))) (y * C + i + C)) (by rw [nI_c (by omega)]) ?_
            refine zs_aload_n dX2_feelHeat_149 rfl rfl ?_
            refine zs_get 0 dX2_feelHeat_150 zf_RX2_9 rfl (v := .ref (ad 1)) rfl ?_
            refine zs_iload_n dX2_feelHeat_153 rfl ?_
            refine zs_iald 1 dX2_feelHeat_154 rfl (vp_in_nI (by omega) (by omega)) ?_
            refine zs_as (y := fu (y * C + i)) (by rw [nI_c (by omega)]) ?_
            refine zs_aload_n dX2_feelHeat_155 rfl rfl ?_
            refine zs_iconst (v := 2) dX2_feelHeat_156 (by decide) ?_
            refine zs_callV (M := mX2_windTo) (As := [.int 2]) (st := [.int (fu (y * C + i)), .int ((upd (pHr C R (sc 3) fu bu y H i) (y * C + i + 1) (((pHr C R (sc 3) fu bu y H i) (y * C + i + 1)) + ((fu (y * C + i)) * (pWind (sc 3) 1)))) (y * C + i + C)), .int (nI (y * C + i + C)), .ref (ad 4)]) (Kc := [(t, .inr (1, fFire ad sc))]) (Kr := [(ad 1, .inl (0, 64, .inl fu)), (ad 2, .inl (0, 64, .inl we)), (ad 3, .inl (1, 64, .inl bu)), (ad 4, .inl (0, 64, .inl (upd (pHr C R (sc 3) fu bu y H i) (y * C + i + 1) (((pHr C R (sc 3) fu bu y H i) (y * C + i + 1)) + ((fu (y * C + i)) * (pWind (sc 3) 1)))))), (ad 5, .inl (0, 60, .inl se))]) [0] [1, 2, 3, 4, 5] 0 dX2_feelHeat_157 zl_RX2_74 kX2_windTo rfl rfl rfl rfl rfl (by decide) rfl rfl (show dd - 1 + 1 ≤ dd by omega) (Nat.zero_le _) (Nat.zero_le _) (Nat.le_of_ble_eq_true rfl) (s_windTo l (dd - 1) t ad sc 2) (fun r K1 hr => ?_)
            obtain ⟨rfl, rfl⟩ := hr
            refine zs_K (K' := [(t, .inr (1, fFire ad sc)), (ad 1, .inl (0, 64, .inl fu)), (ad 2, .inl (0, 64, .inl we)), (ad 3, .inl (1, 64, .inl bu)), (ad 4, .inl (0, 64, .inl (upd (pHr C R (sc 3) fu bu y H i) (y * C + i + 1) (((pHr C R (sc 3) fu bu y H i) (y * C + i + 1)) + ((fu (y * C + i)) * (pWind (sc 3) 1)))))), (ad 5, .inl (0, 60, .inl se))]) [5, 0, 1, 2, 3, 4] rfl (by decide) ?_
            refine zs_imul dX2_feelHeat_160 ?_
            refine zs_iadd dX2_feelHeat_161 ?_
            refine zs_iast 4 dX2_feelHeat_162 rfl (vp_in_nI (by omega) (by omega)) ?_
            show zS _ _ _ _ _ _ [(t, .inr (1, fFire ad sc)), (ad 1, .inl (0, 64, .inl fu)), (ad 2, .inl (0, 64, .inl we)), (ad 3, .inl (1, 64, .inl bu)), (ad 4, .inl (0, 64, .inl (upd (upd (pHr C R (sc 3) fu bu y H i) (y * C + i + 1) (((pHr C R (sc 3) fu bu y H i) (y * C + i + 1)) + ((fu (y * C + i)) * (pWind (sc 3) 1)))) (nI (y * C + i + C)).toNatClampNeg (((upd (pHr C R (sc 3) fu bu y H i) (y * C + i + 1) (((pHr C R (sc 3) fu bu y H i) (y * C + i + 1)) + ((fu (y * C + i)) * (pWind (sc 3) 1)))) (y * C + i + C)) + ((fu (y * C + i)) * (pWind (sc 3) 2)))))), (ad 5, .inl (0, 60, .inl se))]
            rw [nI_c (n := y * C + i + C) (by omega)]
            refine zs_iload_n dX2_feelHeat_163 rfl ?_
            refine zs_if_le (tgt := 190) dX2_feelHeat_164 (by decide) (fun c_10 => ?_) (fun c_10 => ?_)
            · have q4 : ¬ 0 < i := by have hc := c_10; rw [show (0 : Int32) = nI 0 from rfl] at hc; rw [nI_le' (by omega) (by omega)] at hc; omega
              refine zs_iinc (v := (nI (i + 1))) (lv' := [(2, .int (nI (i + 1))), (3, .int (nI (y * C + i))), (0, .ref t), (1, .int (nI y))]) dX2_feelHeat_190 rfl (nI_s1 i) (Nat.le_of_ble_eq_true rfl) rfl ?_
              refine zs_goto (tgt := 35) dX2_feelHeat_193 (by decide) ?_
              have hE : (upd (upd (pHr C R (sc 3) fu bu y H i) (y * C + i + 1) (((pHr C R (sc 3) fu bu y H i) (y * C + i + 1)) + ((fu (y * C + i)) * (pWind (sc 3) 1)))) (y * C + i + C) (((upd (pHr C R (sc 3) fu bu y H i) (y * C + i + 1) (((pHr C R (sc 3) fu bu y H i) (y * C + i + 1)) + ((fu (y * C + i)) * (pWind (sc 3) 1)))) (y * C + i + C)) + ((fu (y * C + i)) * (pWind (sc 3) 2)))) = pHr C R (sc 3) fu bu y H (i + 1) := (by simp only [pHr]; rw [if_neg hb]; simp only [pHs, if_neg q1, if_pos q2, if_pos q3, if_neg q4])
              rw [hE]
              refine zs_lv [2, 3, 0] rfl ?_
              exact ih (i + 1) (by omega)
            · have q4 : 0 < i := by have hc := c_10; rw [show (0 : Int32) = nI 0 from rfl] at hc; rw [nI_le' (by omega) (by omega)] at hc; omega
              refine zs_aload_n dX2_feelHeat_167 rfl rfl ?_
              refine zs_get 0 dX2_feelHeat_168 zf_RX2_22 rfl (v := .ref (ad 4)) rfl ?_
              refine zs_iload_n dX2_feelHeat_171 rfl ?_
              refine zs_iconst (v := 1) dX2_feelHeat_172 (by decide) ?_
              refine zs_isub dX2_feelHeat_173 ?_
              refine zs_as (y := nI (y * C + i - 1)) (nI_sub (b := 1) (by omega)) ?_
              refine zs_dup2 dX2_feelHeat_174 rfl rfl ?_
              refine zs_iald 4 dX2_feelHeat_175 rfl (vp_in_nI (by omega) (by omega)) ?_
              refine zs_as (y := (upd (upd (pHr C R (sc 3) fu bu y H i) (y * C + i + 1) (((pHr C R (sc 3) fu bu y H i) (y * C + i + 1)) + ((fu (y * C + i)) * (pWind (sc 3) 1)))) (y * C + i + C) (((upd (pHr C R (sc 3) fu bu y H i) (y * C + i + 1) (((pHr C R (sc 3) fu bu y H i) (y * C + i + 1)) + ((fu (y * C + i)) * (pWind (sc 3) 1)))) (y * C + i + C)) + ((fu (y * C + i)) * (pWind (sc 3) 2)))) (y * C + i - 1)) (by rw [nI_c (by omega)]) ?_
              refine zs_aload_n dX2_feelHeat_176 rfl rfl ?_
              refine zs_get 0 dX2_feelHeat_177 zf_RX2_9 rfl (v := .ref (ad 1)) rfl ?_
              refine zs_iload_n dX2_feelHeat_180 rfl ?_
              refine zs_iald 1 dX2_feelHeat_181 rfl (vp_in_nI (by omega) (by omega)) ?_
              refine zs_as (y := fu (y * C + i)) (by rw [nI_c (by omega)]) ?_
              refine zs_aload_n dX2_feelHeat_182 rfl rfl ?_
              refine zs_iconst (v := 3) dX2_feelHeat_183 (by decide) ?_
              refine zs_callV (M := mX2_windTo) (As := [.int 3]) (st := [.int (fu (y * C + i)), .int ((upd (upd (pHr C R (sc 3) fu bu y H i) (y * C + i + 1) (((pHr C R (sc 3) fu bu y H i) (y * C + i + 1)) + ((fu (y * C + i)) * (pWind (sc 3) 1)))) (y * C + i + C) (((upd (pHr C R (sc 3) fu bu y H i) (y * C + i + 1) (((pHr C R (sc 3) fu bu y H i) (y * C + i + 1)) + ((fu (y * C + i)) * (pWind (sc 3) 1)))) (y * C + i + C)) + ((fu (y * C + i)) * (pWind (sc 3) 2)))) (y * C + i - 1)), .int (nI (y * C + i - 1)), .ref (ad 4)]) (Kc := [(t, .inr (1, fFire ad sc))]) (Kr := [(ad 1, .inl (0, 64, .inl fu)), (ad 2, .inl (0, 64, .inl we)), (ad 3, .inl (1, 64, .inl bu)), (ad 4, .inl (0, 64, .inl (upd (upd (pHr C R (sc 3) fu bu y H i) (y * C + i + 1) (((pHr C R (sc 3) fu bu y H i) (y * C + i + 1)) + ((fu (y * C + i)) * (pWind (sc 3) 1)))) (y * C + i + C) (((upd (pHr C R (sc 3) fu bu y H i) (y * C + i + 1) (((pHr C R (sc 3) fu bu y H i) (y * C + i + 1)) + ((fu (y * C + i)) * (pWind (sc 3) 1)))) (y * C + i + C)) + ((fu (y * C + i)) * (pWind (sc 3) 2)))))), (ad 5, .inl (0, 60, .inl se))]) [0] [1, 2, 3, 4, 5] 0 dX2_feelHeat_184 zl_RX2_74 kX2_windTo rfl rfl rfl rfl rfl (by decide) rfl rfl (show dd - 1 + 1 ≤ dd by omega) (Nat.zero_le _) (Nat.zero_le _) (Nat.le_of_ble_eq_true rfl) (s_windTo l (dd - 1) t ad sc 3) (fun r K1 hr => ?_)
              obtain ⟨rfl, rfl⟩ := hr
              refine zs_K (K' := [(t, .inr (1, fFire ad sc)), (ad 1, .inl (0, 64, .inl fu)), (ad 2, .inl (0, 64, .inl we)), (ad 3, .inl (1, 64, .inl bu)), (ad 4, .inl (0, 64, .inl (upd (upd (pHr C R (sc 3) fu bu y H i) (y * C + i + 1) (((pHr C R (sc 3) fu bu y H i) (y * C + i + 1)) + ((fu (y * C + i)) * (pWind (sc 3) 1)))) (y * C + i + C) (((upd (pHr C R (sc 3) fu bu y H i) (y * C + i + 1) (((pHr C R (sc 3) fu bu y H i) (y * C + i + 1)) + ((fu (y * C + i)) * (pWind (sc 3) 1)))) (y * C + i + C)) + ((fu (y * C + i)) * (pWind (sc 3) 2)))))), (ad 5, .inl (0, 60, .inl se))]) [5, 0, 1, 2, 3, 4] rfl (by decide) ?_
              refine zs_imul dX2_feelHeat_187 ?_
              refine zs_iadd dX2_feelHeat_188 ?_
              refine zs_iast 4 dX2_feelHeat_189 rfl (vp_in_nI (by omega) (by omega)) ?_
              show zS _ _ _ _ _ _ [(t, .inr (1, fFire ad sc)), (ad 1, .inl (0, 64, .inl fu)), (ad 2, .inl (0, 64, .inl we)), (ad 3, .inl (1, 64, .inl bu)), (ad 4, .inl (0, 64, .inl (upd (upd (upd (pHr C R (sc 3) fu bu y H i) (y * C + i + 1) (((pHr C R (sc 3) fu bu y H i) (y * C + i + 1)) + ((fu (y * C + i)) * (pWind (sc 3) 1)))) (y * C + i + C) (((upd (pHr C R (sc 3) fu bu y H i) (y * C + i + 1) (((pHr C R (sc 3) fu bu y H i) (y * C + i + 1)) + ((fu (y * C + i)) * (pWind (sc 3) 1)))) (y * C + i + C)) + ((fu (y * C + i)) * (pWind (sc 3) 2)))) (nI (y * C + i - 1)).toNatClampNeg (((upd (upd (pHr C R (sc 3) fu bu y H i) (y * C + i + 1) (((pHr C R (sc 3) fu bu y H i) (y * C + i + 1)) + ((fu (y * C + i)) * (pWind (sc 3) 1)))) (y * C + i + C) (((upd (pHr C R (sc 3) fu bu y H i) (y * C + i + 1) (((pHr C R (sc 3) fu bu y H i) (y * C + i + 1)) + ((fu (y * C + i)) * (pWind (sc 3) 1)))) (y * C + i + C)) + ((fu (y * C + i)) * (pWind (sc 3) 2)))) (y * C + i - 1)) + ((fu (y * C + i)) * (pWind (sc 3) 3)))))), (ad 5, .inl (0, 60, .inl se))]
              rw [nI_c (n := y * C + i - 1) (by omega)]
              refine zs_iinc (v := (nI (i + 1))) (lv' := [(2, .int (nI (i + 1))), (3, .int (nI (y * C + i))), (0, .ref t), (1, .int (nI y))]) dX2_feelHeat_190 rfl (nI_s1 i) (Nat.le_of_ble_eq_true rfl) rfl ?_
              refine zs_goto (tgt := 35) dX2_feelHeat_193 (by decide) ?_
              have hE : (upd (upd (upd (pHr C R (sc 3) fu bu y H i) (y * C + i + 1) (((pHr C R (sc 3) fu bu y H i) (y * C + i + 1)) + ((fu (y * C + i)) * (pWind (sc 3) 1)))) (y * C + i + C) (((upd (pHr C R (sc 3) fu bu y H i) (y * C + i + 1) (((pHr C R (sc 3) fu bu y H i) (y * C + i + 1)) + ((fu (y * C + i)) * (pWind (sc 3) 1)))) (y * C + i + C)) + ((fu (y * C + i)) * (pWind (sc 3) 2)))) (y * C + i - 1) (((upd (upd (pHr C R (sc 3) fu bu y H i) (y * C + i + 1) (((pHr C R (sc 3) fu bu y H i) (y * C + i + 1)) + ((fu (y * C + i)) * (pWind (sc 3) 1)))) (y * C + i + C) (((upd (pHr C R (sc 3) fu bu y H i) (y * C + i + 1) (((pHr C R (sc 3) fu bu y H i) (y * C + i + 1)) + ((fu (y * C + i)) * (pWind (sc 3) 1)))) (y * C + i + C)) + ((fu (y * C + i)) * (pWind (sc 3) 2)))) (y * C + i - 1)) + ((fu (y * C + i)) * (pWind (sc 3) 3)))) = pHr C R (sc 3) fu bu y H (i + 1) := (by simp only [pHr]; rw [if_neg hb]; simp only [pHs, if_neg q1, if_pos q2, if_pos q3, if_pos q4])
              rw [hE]
              refine zs_lv [2, 3, 0] rfl ?_
              exact ih (i + 1) (by omega)
      · have q1 : 0 < y := by have hc := c_3; rw [show (0 : Int32) = nI 0 from rfl] at hc; rw [nI_le' (by omega) (by omega)] at hc; omega
        have q1C : C ≤ y * C := Nat.le_mul_of_pos_left C q1
        refine zs_aload_n dX2_feelHeat_68 rfl rfl ?_
        refine zs_get 0 dX2_feelHeat_69 zf_RX2_22 rfl (v := .ref (ad 4)) rfl ?_
        refine zs_iload_n dX2_feelHeat_72 rfl ?_
        refine zs_aload_n dX2_feelHeat_73 rfl rfl ?_
        refine zs_get 0 dX2_feelHeat_74 zf_RX2_37 rfl (v := .int (sc 0)) rfl ?_
        refine zs_isub dX2_feelHeat_77 ?_
        refine zs_as (y := nI (y * C + i - C)) (by rw [hs0]; exact nI_sub (by omega)) ?_
        refine zs_dup2 dX2_feelHeat_78 rfl rfl ?_
        refine zs_iald 4 dX2_feelHeat_79 rfl (vp_in_nI (by omega) (by omega)) ?_
        refine zs_as (y := (pHr C R (sc 3) fu bu y H i) (y * C + i - C)) (by rw [nI_c (by omega)]) ?_
        refine zs_aload_n dX2_feelHeat_80 rfl rfl ?_
        refine zs_get 0 dX2_feelHeat_81 zf_RX2_9 rfl (v := .ref (ad 1)) rfl ?_
        refine zs_iload_n dX2_feelHeat_84 rfl ?_
        refine zs_iald 1 dX2_feelHeat_85 rfl (vp_in_nI (by omega) (by omega)) ?_
        refine zs_as (y := fu (y * C + i)) (by rw [nI_c (by omega)]) ?_
        refine zs_aload_n dX2_feelHeat_86 rfl rfl ?_
        refine zs_iconst (v := 0) dX2_feelHeat_87 (by decide) ?_
        refine zs_callV (M := mX2_windTo) (As := [.int 0]) (st := [.int (fu (y * C + i)), .int ((pHr C R (sc 3) fu bu y H i) (y * C + i - C)), .int (nI (y * C + i - C)), .ref (ad 4)]) (Kc := [(t, .inr (1, fFire ad sc))]) (Kr := [(ad 1, .inl (0, 64, .inl fu)), (ad 2, .inl (0, 64, .inl we)), (ad 3, .inl (1, 64, .inl bu)), (ad 4, .inl (0, 64, .inl (pHr C R (sc 3) fu bu y H i))), (ad 5, .inl (0, 60, .inl se))]) [0] [1, 2, 3, 4, 5] 0 dX2_feelHeat_88 zl_RX2_74 kX2_windTo rfl rfl rfl rfl rfl (by decide) rfl rfl (show dd - 1 + 1 ≤ dd by omega) (Nat.zero_le _) (Nat.zero_le _) (Nat.le_of_ble_eq_true rfl) (s_windTo l (dd - 1) t ad sc 0) (fun r K1 hr => ?_)
        obtain ⟨rfl, rfl⟩ := hr
        refine zs_K (K' := [(t, .inr (1, fFire ad sc)), (ad 1, .inl (0, 64, .inl fu)), (ad 2, .inl (0, 64, .inl we)), (ad 3, .inl (1, 64, .inl bu)), (ad 4, .inl (0, 64, .inl (pHr C R (sc 3) fu bu y H i))), (ad 5, .inl (0, 60, .inl se))]) [5, 0, 1, 2, 3, 4] rfl (by decide) ?_
        refine zs_imul dX2_feelHeat_91 ?_
        refine zs_iadd dX2_feelHeat_92 ?_
        refine zs_iast 4 dX2_feelHeat_93 rfl (vp_in_nI (by omega) (by omega)) ?_
        show zS _ _ _ _ _ _ [(t, .inr (1, fFire ad sc)), (ad 1, .inl (0, 64, .inl fu)), (ad 2, .inl (0, 64, .inl we)), (ad 3, .inl (1, 64, .inl bu)), (ad 4, .inl (0, 64, .inl (upd (pHr C R (sc 3) fu bu y H i) (nI (y * C + i - C)).toNatClampNeg (((pHr C R (sc 3) fu bu y H i) (y * C + i - C)) + ((fu (y * C + i)) * (pWind (sc 3) 0)))))), (ad 5, .inl (0, 60, .inl se))]
        rw [nI_c (n := y * C + i - C) (by omega)]
        refine zs_iload_n dX2_feelHeat_94 rfl ?_
        refine zs_aload_n dX2_feelHeat_95 rfl rfl ?_
        refine zs_get 0 dX2_feelHeat_96 zf_RX2_37 rfl (v := .int (sc 0)) rfl ?_
        refine zs_iconst (v := 1) dX2_feelHeat_99 (by decide) ?_
        refine zs_isub dX2_feelHeat_100 ?_
        refine zs_as (y := nI (C - 1)) (by rw [hs0]; exact nI_sub (b := 1) (by omega)) ?_
        refine zs_icmp_ge (tgt := 127) dX2_feelHeat_101 (by decide) (fun c_11 => ?_) (fun c_11 => ?_)
        · have q2 : ¬ i + 1 < C := by have hc := c_11; rw [nI_le' (by omega) (by omega)] at hc; omega
          refine zs_iload_n dX2_feelHeat_127 rfl ?_
          refine zs_aload_n dX2_feelHeat_128 rfl rfl ?_
          refine zs_get 0 dX2_feelHeat_129 zf_RX2_41 rfl (v := .int (sc 1)) rfl ?_
          refine zs_iconst (v := 1) dX2_feelHeat_132 (by decide) ?_
          refine zs_isub dX2_feelHeat_133 ?_
          refine zs_as (y := nI (R - 1)) (by rw [hs1]; exact nI_sub (b := 1) (by omega)) ?_
          refine zs_icmp_ge (tgt := 163) dX2_feelHeat_134 (by decide) (fun c_12 => ?_) (fun c_12 => ?_)
          · have q3 : ¬ y + 1 < R := by have hc := c_12; rw [nI_le' (by omega) (by omega)] at hc; omega
            refine zs_iload_n dX2_feelHeat_163 rfl ?_
            refine zs_if_le (tgt := 190) dX2_feelHeat_164 (by decide) (fun c_13 => ?_) (fun c_13 => ?_)
            · have q4 : ¬ 0 < i := by have hc := c_13; rw [show (0 : Int32) = nI 0 from rfl] at hc; rw [nI_le' (by omega) (by omega)] at hc; omega
              refine zs_iinc (v := (nI (i + 1))) (lv' := [(2, .int (nI (i + 1))), (3, .int (nI (y * C + i))), (0, .ref t), (1, .int (nI y))]) dX2_feelHeat_190 rfl (nI_s1 i) (Nat.le_of_ble_eq_true rfl) rfl ?_
              refine zs_goto (tgt := 35) dX2_feelHeat_193 (by decide) ?_
              have hE : (upd (pHr C R (sc 3) fu bu y H i) (y * C + i - C) (((pHr C R (sc 3) fu bu y H i) (y * C + i - C)) + ((fu (y * C + i)) * (pWind (sc 3) 0)))) = pHr C R (sc 3) fu bu y H (i + 1) := (by simp only [pHr]; rw [if_neg hb]; simp only [pHs, if_pos q1, if_neg q2, if_neg q3, if_neg q4])
              rw [hE]
              refine zs_lv [2, 3, 0] rfl ?_
              exact ih (i + 1) (by omega)
            · have q4 : 0 < i := by have hc := c_13; rw [show (0 : Int32) = nI 0 from rfl] at hc; rw [nI_le' (by omega) (by omega)] at hc; omega
              refine zs_aload_n dX2_feelHeat_167 rfl rfl ?_
              refine zs_get 0 dX2_feelHeat_168 zf_RX2_22 rfl (v := .ref (ad 4)) rfl ?_
              refine zs_iload_n dX2_feelHeat_171 rfl ?_
              refine zs_iconst (v := 1) dX2_feelHeat_172 (by decide) ?_
              refine zs_isub dX2_feelHeat_173 ?_
              refine zs_as (y := nI (y * C + i - 1)) (nI_sub (b := 1) (by omega)) ?_
              refine zs_dup2 dX2_feelHeat_174 rfl rfl ?_
              refine zs_iald 4 dX2_feelHeat_175 rfl (vp_in_nI (by omega) (by omega)) ?_
              refine zs_as (y := (upd (pHr C R (sc 3) fu bu y H i) (y * C + i - C) (((pHr C R (sc 3) fu bu y H i) (y * C + i - C)) + ((fu (y * C + i)) * (pWind (sc 3) 0)))) (y * C + i - 1)) (by rw [nI_c (by omega)]) ?_
              refine zs_aload_n dX2_feelHeat_176 rfl rfl ?_
              refine zs_get 0 dX2_feelHeat_177 zf_RX2_9 rfl (v := .ref (ad 1)) rfl ?_
              refine zs_iload_n dX2_feelHeat_180 rfl ?_
              refine zs_iald 1 dX2_feelHeat_181 rfl (vp_in_nI (by omega) (by omega)) ?_
              refine zs_as (y := fu (y * C + i)) (by rw [nI_c (by omega)]) ?_
              refine zs_aload_n dX2_feelHeat_182 rfl rfl ?_
              refine zs_iconst (v := 3) dX2_feelHeat_183 (by decide) ?_
              refine zs_callV (M := mX2_windTo) (As := [.int 3]) (st := [.int (fu (y * C + i)), .int ((upd (pHr C R (sc 3) fu bu y H i) (y * C + i - C) (((pHr C R (sc 3) fu bu y H i) (y * C + i - C)) + ((fu (y * C + i)) * (pWind (sc 3) 0)))) (y * C + i - 1)), .int (nI (y * C + i - 1)), .ref (ad 4)]) (Kc := [(t, .inr (1, fFire ad sc))]) (Kr := [(ad 1, .inl (0, 64, .inl fu)), (ad 2, .inl (0, 64, .inl we)), (ad 3, .inl (1, 64, .inl bu)), (ad 4, .inl (0, 64, .inl (upd (pHr C R (sc 3) fu bu y H i) (y * C + i - C) (((pHr C R (sc 3) fu bu y H i) (y * C + i - C)) + ((fu (y * C + i)) * (pWind (sc 3) 0)))))), (ad 5, .inl (0, 60, .inl se))]) [0] [1, 2, 3, 4, 5] 0 dX2_feelHeat_184 zl_RX2_74 kX2_windTo rfl rfl rfl rfl rfl (by decide) rfl rfl (show dd - 1 + 1 ≤ dd by omega) (Nat.zero_le _) (Nat.zero_le _) (Nat.le_of_ble_eq_true rfl) (s_windTo l (dd - 1) t ad sc 3) (fun r K1 hr => ?_)
              obtain ⟨rfl, rfl⟩ := hr
              refine zs_K (K' := [(t, .inr (1, fFire ad sc)), (ad 1, .inl (0, 64, .inl fu)), (ad 2, .inl (0, 64, .inl we)), (ad 3, .inl (1, 64, .inl bu)), (ad 4, .inl (0, 64, .inl (upd (pHr C R (sc 3) fu bu y H i) (y * C + i - C) (((pHr C R (sc 3) fu bu y H i) (y * C + i - C)) + ((fu (y * C + i)) * (pWind (sc 3) 0)))))), (ad 5, .inl (0, 60, .inl se))]) [5, 0, 1, 2, 3, 4] rfl (by decide) ?_
              refine zs_imul dX2_feelHeat_187 ?_
              refine zs_iadd dX2_feelHeat_188 ?_
              refine zs_iast 4 dX2_feelHeat_189 rfl (vp_in_nI (by omega) (by omega)) ?_
              show zS _ _ _ _ _ _ [(t, .inr (1, fFire ad sc)), (ad 1, .inl (0, 64, .inl fu)), (ad 2, .inl (0, 64, .inl we)), (ad 3, .inl (1, 64, .inl bu)), (ad 4, .inl (0, 64, .inl (upd (upd (pHr C R (sc 3) fu bu y H i) (y * C + i - C) (((pHr C R (sc 3) fu bu y H i) (y * C + i - C)) + ((fu (y * C + i)) * (pWind (sc 3) 0)))) (nI (y * C + i - 1)).toNatClampNeg (((upd (pHr C R (sc 3) fu bu y H i) (y * C + i - C) (((pHr C R (sc 3) fu bu y H i) (y * C + i - C)) + ((fu (y * C + i)) * (pWind (sc 3) 0)))) (y * C + i - 1)) + ((fu (y * C + i)) * (pWind (sc 3) 3)))))), (ad 5, .inl (0, 60, .inl se))]
              rw [nI_c (n := y * C + i - 1) (by omega)]
              refine zs_iinc (v := (nI (i + 1))) (lv' := [(2, .int (nI (i + 1))), (3, .int (nI (y * C + i))), (0, .ref t), (1, .int (nI y))]) dX2_feelHeat_190 rfl (nI_s1 i) (Nat.le_of_ble_eq_true rfl) rfl ?_
              refine zs_goto (tgt := 35) dX2_feelHeat_193 (by decide) ?_
              have hE : (upd (upd (pHr C R (sc 3) fu bu y H i) (y * C + i - C) (((pHr C R (sc 3) fu bu y H i) (y * C + i - C)) + ((fu (y * C + i)) * (pWind (sc 3) 0)))) (y * C + i - 1) (((upd (pHr C R (sc 3) fu bu y H i) (y * C + i - C) (((pHr C R (sc 3) fu bu y H i) (y * C + i - C)) + ((fu (y * C + i)) * (pWind (sc 3) 0)))) (y * C + i - 1)) + ((fu (y * C + i)) * (pWind (sc 3) 3)))) = pHr C R (sc 3) fu bu y H (i + 1) := (by simp only [pHr]; rw [if_neg hb]; simp only [pHs, if_pos q1, if_neg q2, if_neg q3, if_pos q4])
              rw [hE]
              refine zs_lv [2, 3, 0] rfl ?_
              exact ih (i + 1) (by omega)
          · have q3 : y + 1 < R := by have hc := c_12; rw [nI_le' (by omega) (by omega)] at hc; omega
            have q3C : y * C + C + C ≤ R * C := by have e2 : (y + 2) * C ≤ R * C := Nat.mul_le_mul_right C (by omega); rw [Nat.add_mul, Nat.two_mul] at e2; omega
            refine zs_aload_n dX2_feelHeat_137 rfl rfl ?_
            refine zs_get 0 dX2_feelHeat_138 zf_RX2_22 rfl (v := .ref (ad 4)) rfl ?_
            refine zs_iload_n dX2_feelHeat_141 rfl ?_
            refine zs_aload_n dX2_feelHeat_142 rfl rfl ?_
            refine zs_get 0 dX2_feelHeat_143 zf_RX2_37 rfl (v := .int (sc 0)) rfl ?_
            refine zs_iadd dX2_feelHeat_146 ?_
            refine zs_as (y := nI (y * C + i + C)) (by rw [hs0, nI_add]) ?_
            refine zs_dup2 dX2_feelHeat_147 rfl rfl ?_
            refine zs_iald 4 dX2_feelHeat_148 rfl (vp_in_nI (by omega) (by omega)) ?_
            refine zs_as (y := (upd (pHr C R (sc 3) fu bu y H i) (y * C + i - C) (((pHr C R (sc 3) fu bu y H i) (y * C + i - C)) + ((fu (y * C + i)) * (pWind (sc 3) 0)))) (y * C + i + C)) (by rw [nI_c (by omega)]) ?_
            refine zs_aload_n dX2_feelHeat_149 rfl rfl ?_
            refine zs_get 0 dX2_feelHeat_150 zf_RX2_9 rfl (v := .ref (ad 1)) rfl ?_
            refine zs_iload_n dX2_feelHeat_153 rfl ?_
            refine zs_iald 1 dX2_feelHeat_154 rfl (vp_in_nI (by omega) (by omega)) ?_
            refine zs_as (y := fu (y * C + i)) (by rw [nI_c (by omega)]) ?_
            refine zs_aload_n dX2_feelHeat_155 rfl rfl ?_
            refine zs_iconst (v := 2) dX2_feelHeat_156 (by decide) ?_
            refine zs_callV (M := mX2_windTo) (As := [.int 2]) (st := [.int (fu (y * C + i)), .int ((upd (pHr C R (sc 3) fu bu y H i) (y * C + i - C) (((pHr C R (sc 3) fu bu y H i) (y * C + i - C)) + ((fu (y * C + i)) * (pWind (sc 3) 0)))) (y * C + i + C)), .int (nI (y * C + i + C)), .ref (ad 4)]) (Kc := [(t, .inr (1, fFire ad sc))]) (Kr := [(ad 1, .inl (0, 64, .inl fu)), (ad 2, .inl (0, 64, .inl we)), (ad 3, .inl (1, 64, .inl bu)), (ad 4, .inl (0, 64, .inl (upd (pHr C R (sc 3) fu bu y H i) (y * C + i - C) (((pHr C R (sc 3) fu bu y H i) (y * C + i - C)) + ((fu (y * C + i)) * (pWind (sc 3) 0)))))), (ad 5, .inl (0, 60, .inl se))]) [0] [1, 2, 3, 4, 5] 0 dX2_feelHeat_157 zl_RX2_74 kX2_windTo rfl rfl rfl rfl rfl (by decide) rfl rfl (show dd - 1 + 1 ≤ dd by omega) (Nat.zero_le _) (Nat.zero_le _) (Nat.le_of_ble_eq_true rfl) (s_windTo l (dd - 1) t ad sc 2) (fun r K1 hr => ?_)
            obtain ⟨rfl, rfl⟩ := hr
            refine zs_K (K' := [(t, .inr (1, fFire ad sc)), (ad 1, .inl (0, 64, .inl fu)), (ad 2, .inl (0, 64, .inl we)), (ad 3, .inl (1, 64, .inl bu)), (ad 4, .inl (0, 64, .inl (upd (pHr C R (sc 3) fu bu y H i) (y * C + i - C) (((pHr C R (sc 3) fu bu y H i) (y * C + i - C)) + ((fu (y * C + i)) * (pWind (sc 3) 0)))))), (ad 5, .inl (0, 60, .inl se))]) [5, 0, 1, 2, 3, 4] rfl (by decide) ?_
            refine zs_imul dX2_feelHeat_160 ?_
            refine zs_iadd dX2_feelHeat_161 ?_
            refine zs_iast 4 dX2_feelHeat_162 rfl (vp_in_nI (by omega) (by omega)) ?_
            show zS _ _ _ _ _ _ [(t, .inr (1, fFire ad sc)), (ad 1, .inl (0, 64, .inl fu)), (ad 2, .inl (0, 64, .inl we)), (ad 3, .inl (1, 64, .inl bu)), (ad 4, .inl (0, 64, .inl (upd (upd (pHr C R (sc 3) fu bu y H i) (y * C + i - C) (((pHr C R (sc 3) fu bu y H i) (y * C + i - C)) + ((fu (y * C + i)) * (pWind (sc 3) 0)))) (nI (y * C + i + C)).toNatClampNeg (((upd (pHr C R (sc 3) fu bu y H i) (y * C + i - C) (((pHr C R (sc 3) fu bu y H i) (y * C + i - C)) + ((fu (y * C + i)) * (pWind (sc 3) 0)))) (y * C + i + C)) + ((fu (y * C + i)) * (pWind (sc 3) 2)))))), (ad 5, .inl (0, 60, .inl se))]
            rw [nI_c (n := y * C + i + C) (by omega)]
            refine zs_iload_n dX2_feelHeat_163 rfl ?_
            refine zs_if_le (tgt := 190) dX2_feelHeat_164 (by decide) (fun c_14 => ?_) (fun c_14 => ?_)
            · have q4 : ¬ 0 < i := by have hc := c_14; rw [show (0 : Int32) = nI 0 from rfl] at hc; rw [nI_le' (by omega) (by omega)] at hc; omega
              refine zs_iinc (v := (nI (i + 1))) (lv' := [(2, .int (nI (i + 1))), (3, .int (nI (y * C + i))), (0, .ref t), (1, .int (nI y))]) dX2_feelHeat_190 rfl (nI_s1 i) (Nat.le_of_ble_eq_true rfl) rfl ?_
              refine zs_goto (tgt := 35) dX2_feelHeat_193 (by decide) ?_
              have hE : (upd (upd (pHr C R (sc 3) fu bu y H i) (y * C + i - C) (((pHr C R (sc 3) fu bu y H i) (y * C + i - C)) + ((fu (y * C + i)) * (pWind (sc 3) 0)))) (y * C + i + C) (((upd (pHr C R (sc 3) fu bu y H i) (y * C + i - C) (((pHr C R (sc 3) fu bu y H i) (y * C + i - C)) + ((fu (y * C + i)) * (pWind (sc 3) 0)))) (y * C + i + C)) + ((fu (y * C + i)) * (pWind (sc 3) 2)))) = pHr C R (sc 3) fu bu y H (i + 1) := (by simp only [pHr]; rw [if_neg hb]; simp only [pHs, if_pos q1, if_neg q2, if_pos q3, if_neg q4])
              rw [hE]
              refine zs_lv [2, 3, 0] rfl ?_
              exact ih (i + 1) (by omega)
            · have q4 : 0 < i := by have hc := c_14; rw [show (0 : Int32) = nI 0 from rfl] at hc; rw [nI_le' (by omega) (by omega)] at hc; omega
              refine zs_aload_n dX2_feelHeat_167 rfl rfl ?_
              refine zs_get 0 dX2_feelHeat_168 zf_RX2_22 rfl (v := .ref (ad 4)) rfl ?_
              refine zs_iload_n dX2_feelHeat_171 rfl ?_
              refine zs_iconst (v := 1) dX2_feelHeat_172 (by decide) ?_
              refine zs_isub dX2_feelHeat_173 ?_
              refine zs_as (y := nI (y * C + i - 1)) (nI_sub (b := 1) (by omega)) ?_
              refine zs_dup2 dX2_feelHeat_174 rfl rfl ?_
              refine zs_iald 4 dX2_feelHeat_175 rfl (vp_in_nI (by omega) (by omega)) ?_
              refine zs_as (y := (upd (upd (pHr C R (sc 3) fu bu y H i) (y * C + i - C) (((pHr C R (sc 3) fu bu y H i) (y * C + i - C)) + ((fu (y * C + i)) * (pWind (sc 3) 0)))) (y * C + i + C) (((upd (pHr C R (sc 3) fu bu y H i) (y * C + i - C) (((pHr C R (sc 3) fu bu y H i) (y * C + i - C)) + ((fu (y * C + i)) * (pWind (sc 3) 0)))) (y * C + i + C)) + ((fu (y * C + i)) * (pWind (sc 3) 2)))) (y * C + i - 1)) (by rw [nI_c (by omega)]) ?_
              refine zs_aload_n dX2_feelHeat_176 rfl rfl ?_
              refine zs_get 0 dX2_feelHeat_177 zf_RX2_9 rfl (v := .ref (ad 1)) rfl ?_
              refine zs_iload_n dX2_feelHeat_180 rfl ?_
              refine zs_iald 1 dX2_feelHeat_181 rfl (vp_in_nI (by omega) (by omega)) ?_
              refine zs_as (y := fu (y * C + i)) (by rw [nI_c (by omega)]) ?_
              refine zs_aload_n dX2_feelHeat_182 rfl rfl ?_
              refine zs_iconst (v := 3) dX2_feelHeat_183 (by decide) ?_
              refine zs_callV (M := mX2_windTo) (As := [.int 3]) (st := [.int (fu (y * C + i)), .int ((upd (upd (pHr C R (sc 3) fu bu y H i) (y * C + i - C) (((pHr C R (sc 3) fu bu y H i) (y * C + i - C)) + ((fu (y * C + i)) * (pWind (sc 3) 0)))) (y * C + i + C) (((upd (pHr C R (sc 3) fu bu y H i) (y * C + i - C) (((pHr C R (sc 3) fu bu y H i) (y * C + i - C)) + ((fu (y * C + i)) * (pWind (sc 3) 0)))) (y * C + i + C)) + ((fu (y * C + i)) * (pWind (sc 3) 2)))) (y * C + i - 1)), .int (nI (y * C + i - 1)), .ref (ad 4)]) (Kc := [(t, .inr (1, fFire ad sc))]) (Kr := [(ad 1, .inl (0, 64, .inl fu)), (ad 2, .inl (0, 64, .inl we)), (ad 3, .inl (1, 64, .inl bu)), (ad 4, .inl (0, 64, .inl (upd (upd (pHr C R (sc 3) fu bu y H i) (y * C + i - C) (((pHr C R (sc 3) fu bu y H i) (y * C + i - C)) + ((fu (y * C + i)) * (pWind (sc 3) 0)))) (y * C + i + C) (((upd (pHr C R (sc 3) fu bu y H i) (y * C + i - C) (((pHr C R (sc 3) fu bu y H i) (y * C + i - C)) + ((fu (y * C + i)) * (pWind (sc 3) 0)))) (y * C + i + C)) + ((fu (y * C + i)) * (pWind (sc 3) 2)))))), (ad 5, .inl (0, 60, .inl se))]) [0] [1, 2, 3, 4, 5] 0 dX2_feelHeat_184 zl_RX2_74 kX2_windTo rfl rfl rfl rfl rfl (by decide) rfl rfl (show dd - 1 + 1 ≤ dd by omega) (Nat.zero_le _) (Nat.zero_le _) (Nat.le_of_ble_eq_true rfl) (s_windTo l (dd - 1) t ad sc 3) (fun r K1 hr => ?_)
              obtain ⟨rfl, rfl⟩ := hr
              refine zs_K (K' := [(t, .inr (1, fFire ad sc)), (ad 1, .inl (0, 64, .inl fu)), (ad 2, .inl (0, 64, .inl we)), (ad 3, .inl (1, 64, .inl bu)), (ad 4, .inl (0, 64, .inl (upd (upd (pHr C R (sc 3) fu bu y H i) (y * C + i - C) (((pHr C R (sc 3) fu bu y H i) (y * C + i - C)) + ((fu (y * C + i)) * (pWind (sc 3) 0)))) (y * C + i + C) (((upd (pHr C R (sc 3) fu bu y H i) (y * C + i - C) (((pHr C R (sc 3) fu bu y H i) (y * C + i - C)) + ((fu (y * C + i)) * (pWind (sc 3) 0)))) (y * C + i + C)) + ((fu (y * C + i)) * (pWind (sc 3) 2)))))), (ad 5, .inl (0, 60, .inl se))]) [5, 0, 1, 2, 3, 4] rfl (by decide) ?_
              refine zs_imul dX2_feelHeat_187 ?_
              refine zs_iadd dX2_feelHeat_188 ?_
              refine zs_iast 4 dX2_feelHeat_189 rfl (vp_in_nI (by omega) (by omega)) ?_
              show zS _ _ _ _ _ _ [(t, .inr (1, fFire ad sc)), (ad 1, .inl (0, 64, .inl fu)), (ad 2, .inl (0, 64, .inl we)), (ad 3, .inl (1, 64, .inl bu)), (ad 4, .inl (0, 64, .inl (upd (upd (upd (pHr C R (sc 3) fu bu y H i) (y * C + i - C) (((pHr C R (sc 3) fu bu y H i) (y * C + i - C)) + ((fu (y * C + i)) * (pWind (sc 3) 0)))) (y * C + i + C) (((upd (pHr C R (sc 3) fu bu y H i) (y * C + i - C) (((pHr C R (sc 3) fu bu y H i) (y * C + i - C)) + ((fu (y * C + i)) * (pWind (sc 3) 0)))) (y * C + i + C)) + ((fu (y * C + i)) * (pWind (sc 3) 2)))) (nI (y * C + i - 1)).toNatClampNeg (((upd (upd (pHr C R (sc 3) fu bu y H i) (y * C + i - C) (((pHr C R (sc 3) fu bu y H i) (y * C + i - C)) + ((fu (y * C + i)) * (pWind (sc 3) 0)))) (y * C + i + C) (((upd (pHr C R (sc 3) fu bu y H i) (y * C + i - C) (((pHr C R (sc 3) fu bu y H i) (y * C + i - C)) + ((fu (y * C + i)) * (pWind (sc 3) 0)))) (y * C + i + C)) + ((fu (y * C + i)) * (pWind (sc 3) 2)))) (y * C + i - 1)) + ((fu (y * C + i)) * (pWind (sc 3) 3)))))), (ad 5, .inl (0, 60, .inl se))]
              rw [nI_c (n := y * C + i - 1) (by omega)]
              refine zs_iinc (v := (nI (i + 1))) (lv' := [(2, .int (nI (i + 1))), (3, .int (nI (y * C + i))), (0, .ref t), (1, .int (nI y))]) dX2_feelHeat_190 rfl (nI_s1 i) (Nat.le_of_ble_eq_true rfl) rfl ?_
              refine zs_goto (tgt := 35) dX2_feelHeat_193 (by decide) ?_
              have hE : (upd (upd (upd (pHr C R (sc 3) fu bu y H i) (y * C + i - C) (((pHr C R (sc 3) fu bu y H i) (y * C + i - C)) + ((fu (y * C + i)) * (pWind (sc 3) 0)))) (y * C + i + C) (((upd (pHr C R (sc 3) fu bu y H i) (y * C + i - C) (((pHr C R (sc 3) fu bu y H i) (y * C + i - C)) + ((fu (y * C + i)) * (pWind (sc 3) 0)))) (y * C + i + C)) + ((fu (y * C + i)) * (pWind (sc 3) 2)))) (y * C + i - 1) (((upd (upd (pHr C R (sc 3) fu bu y H i) (y * C + i - C) (((pHr C R (sc 3) fu bu y H i) (y * C + i - C)) + ((fu (y * C + i)) * (pWind (sc 3) 0)))) (y * C + i + C) (((upd (pHr C R (sc 3) fu bu y H i) (y * C + i - C) (((pHr C R (sc 3) fu bu y H i) (y * C + i - C)) + ((fu (y * C + i)) * (pWind (sc 3) 0)))) (y * C + i + C)) + ((fu (y * C + i)) * (pWind (sc 3) 2)))) (y * C + i - 1)) + ((fu (y * C + i)) * (pWind (sc 3) 3)))) = pHr C R (sc 3) fu bu y H (i + 1) := (by simp only [pHr]; rw [if_neg hb]; simp only [pHs, if_pos q1, if_neg q2, if_pos q3, if_pos q4])
              rw [hE]
              refine zs_lv [2, 3, 0] rfl ?_
              exact ih (i + 1) (by omega)
        · have q2 : i + 1 < C := by have hc := c_11; rw [nI_le' (by omega) (by omega)] at hc; omega
          refine zs_aload_n dX2_feelHeat_104 rfl rfl ?_
          refine zs_get 0 dX2_feelHeat_105 zf_RX2_22 rfl (v := .ref (ad 4)) rfl ?_
          refine zs_iload_n dX2_feelHeat_108 rfl ?_
          refine zs_iconst (v := 1) dX2_feelHeat_109 (by decide) ?_
          refine zs_iadd dX2_feelHeat_110 ?_
          refine zs_as (y := nI (y * C + i + 1)) (nI_s1 _) ?_
          refine zs_dup2 dX2_feelHeat_111 rfl rfl ?_
          refine zs_iald 4 dX2_feelHeat_112 rfl (vp_in_nI (by omega) (by omega)) ?_
          refine zs_as (y := (upd (pHr C R (sc 3) fu bu y H i) (y * C + i - C) (((pHr C R (sc 3) fu bu y H i) (y * C + i - C)) + ((fu (y * C + i)) * (pWind (sc 3) 0)))) (y * C + i + 1)) (by rw [nI_c (by omega)]) ?_
          refine zs_aload_n dX2_feelHeat_113 rfl rfl ?_
          refine zs_get 0 dX2_feelHeat_114 zf_RX2_9 rfl (v := .ref (ad 1)) rfl ?_
          refine zs_iload_n dX2_feelHeat_117 rfl ?_
          refine zs_iald 1 dX2_feelHeat_118 rfl (vp_in_nI (by omega) (by omega)) ?_
          refine zs_as (y := fu (y * C + i)) (by rw [nI_c (by omega)]) ?_
          refine zs_aload_n dX2_feelHeat_119 rfl rfl ?_
          refine zs_iconst (v := 1) dX2_feelHeat_120 (by decide) ?_
          refine zs_callV (M := mX2_windTo) (As := [.int 1]) (st := [.int (fu (y * C + i)), .int ((upd (pHr C R (sc 3) fu bu y H i) (y * C + i - C) (((pHr C R (sc 3) fu bu y H i) (y * C + i - C)) + ((fu (y * C + i)) * (pWind (sc 3) 0)))) (y * C + i + 1)), .int (nI (y * C + i + 1)), .ref (ad 4)]) (Kc := [(t, .inr (1, fFire ad sc))]) (Kr := [(ad 1, .inl (0, 64, .inl fu)), (ad 2, .inl (0, 64, .inl we)), (ad 3, .inl (1, 64, .inl bu)), (ad 4, .inl (0, 64, .inl (upd (pHr C R (sc 3) fu bu y H i) (y * C + i - C) (((pHr C R (sc 3) fu bu y H i) (y * C + i - C)) + ((fu (y * C + i)) * (pWind (sc 3) 0)))))), (ad 5, .inl (0, 60, .inl se))]) [0] [1, 2, 3, 4, 5] 0 dX2_feelHeat_121 zl_RX2_74 kX2_windTo rfl rfl rfl rfl rfl (by decide) rfl rfl (show dd - 1 + 1 ≤ dd by omega) (Nat.zero_le _) (Nat.zero_le _) (Nat.le_of_ble_eq_true rfl) (s_windTo l (dd - 1) t ad sc 1) (fun r K1 hr => ?_)
          obtain ⟨rfl, rfl⟩ := hr
          refine zs_K (K' := [(t, .inr (1, fFire ad sc)), (ad 1, .inl (0, 64, .inl fu)), (ad 2, .inl (0, 64, .inl we)), (ad 3, .inl (1, 64, .inl bu)), (ad 4, .inl (0, 64, .inl (upd (pHr C R (sc 3) fu bu y H i) (y * C + i - C) (((pHr C R (sc 3) fu bu y H i) (y * C + i - C)) + ((fu (y * C + i)) * (pWind (sc 3) 0)))))), (ad 5, .inl (0, 60, .inl se))]) [5, 0, 1, 2, 3, 4] rfl (by decide) ?_
          refine zs_imul dX2_feelHeat_124 ?_
          refine zs_iadd dX2_feelHeat_125 ?_
          refine zs_iast 4 dX2_feelHeat_126 rfl (vp_in_nI (by omega) (by omega)) ?_
          show zS _ _ _ _ _ _ [(t, .inr (1, fFire ad sc)), (ad 1, .inl (0, 64, .inl fu)), (ad 2, .inl (0, 64, .inl we)), (ad 3, .inl (1, 64, .inl bu)), (ad 4, .inl (0, 64, .inl (upd (upd (pHr C R (sc 3) fu bu y H i) (y * C + i - C) (((pHr C R (sc 3) fu bu y H i) (y * C + i - C)) + ((fu (y * C + i)) * (pWind (sc 3) 0)))) (nI (y * C + i + 1)).toNatClampNeg (((upd (pHr C R (sc 3) fu bu y H i) (y * C + i - C) (((pHr C R (sc 3) fu bu y H i) (y * C + i - C)) + ((fu (y * C + i)) * (pWind (sc 3) 0)))) (y * C + i + 1)) + ((fu (y * C + i)) * (pWind (sc 3) 1)))))), (ad 5, .inl (0, 60, .inl se))]
          rw [nI_c (n := y * C + i + 1) (by omega)]
          refine zs_iload_n dX2_feelHeat_127 rfl ?_
          refine zs_aload_n dX2_feelHeat_128 rfl rfl ?_
          refine zs_get 0 dX2_feelHeat_129 zf_RX2_41 rfl (v := .int (sc 1)) rfl ?_
          refine zs_iconst (v := 1) dX2_feelHeat_132 (by decide) ?_
          refine zs_isub dX2_feelHeat_133 ?_
          refine zs_as (y := nI (R - 1)) (by rw [hs1]; exact nI_sub (b := 1) (by omega)) ?_
          refine zs_icmp_ge (tgt := 163) dX2_feelHeat_134 (by decide) (fun c_15 => ?_) (fun c_15 => ?_)
          · have q3 : ¬ y + 1 < R := by have hc := c_15; rw [nI_le' (by omega) (by omega)] at hc; omega
            refine zs_iload_n dX2_feelHeat_163 rfl ?_
            refine zs_if_le (tgt := 190) dX2_feelHeat_164 (by decide) (fun c_16 => ?_) (fun c_16 => ?_)
            · have q4 : ¬ 0 < i := by have hc := c_16; rw [show (0 : Int32) = nI 0 from rfl] at hc; rw [nI_le' (by omega) (by omega)] at hc; omega
              refine zs_iinc (v := (nI (i + 1))) (lv' := [(2, .int (nI (i + 1))), (3, .int (nI (y * C + i))), (0, .ref t), (1, .int (nI y))]) dX2_feelHeat_190 rfl (nI_s1 i) (Nat.le_of_ble_eq_true rfl) rfl ?_
              refine zs_goto (tgt := 35) dX2_feelHeat_193 (by decide) ?_
              have hE : (upd (upd (pHr C R (sc 3) fu bu y H i) (y * C + i - C) (((pHr C R (sc 3) fu bu y H i) (y * C + i - C)) + ((fu (y * C + i)) * (pWind (sc 3) 0)))) (y * C + i + 1) (((upd (pHr C R (sc 3) fu bu y H i) (y * C + i - C) (((pHr C R (sc 3) fu bu y H i) (y * C + i - C)) + ((fu (y * C + i)) * (pWind (sc 3) 0)))) (y * C + i + 1)) + ((fu (y * C + i)) * (pWind (sc 3) 1)))) = pHr C R (sc 3) fu bu y H (i + 1) := (by simp only [pHr]; rw [if_neg hb]; simp only [pHs, if_pos q1, if_pos q2, if_neg q3, if_neg q4])
              rw [hE]
              refine zs_lv [2, 3, 0] rfl ?_
              exact ih (i + 1) (by omega)
            · have q4 : 0 < i := by have hc := c_16; rw [show (0 : Int32) = nI 0 from rfl] at hc; rw [nI_le' (by omega) (by omega)] at hc; omega
              refine zs_aload_n dX2_feelHeat_167 rfl rfl ?_
              refine zs_get 0 dX2_feelHeat_168 zf_RX2_22 rfl (v := .ref (ad 4)) rfl ?_
              refine zs_iload_n dX2_feelHeat_171 rfl ?_
              refine zs_iconst (v := 1) dX2_feelHeat_172 (by decide) ?_
              refine zs_isub dX2_feelHeat_173 ?_
              refine zs_as (y := nI (y * C + i - 1)) (nI_sub (b := 1) (by omega)) ?_
              refine zs_dup2 dX2_feelHeat_174 rfl rfl ?_
              refine zs_iald 4 dX2_feelHeat_175 rfl (vp_in_nI (by omega) (by omega)) ?_
              refine zs_as (y := (upd (upd (pHr C R (sc 3) fu bu y H i) (y * C + i - C) (((pHr C R (sc 3) fu bu y H i) (y * C + i - C)) + ((fu (y * C + i)) * (pWind (sc 3) 0)))) (y * C + i + 1) (((upd (pHr C R (sc 3) fu bu y H i) (y * C + i - C) (((pHr C R (sc 3) fu bu y H i) (y * C + i - C)) + ((fu (y * C + i)) * (pWind (sc 3) 0)))) (y * C + i + 1)) + ((fu (y * C + i)) * (pWind (sc 3) 1)))) (y * C + i - 1)) (by rw [nI_c (by omega)]) ?_
              refine zs_aload_n dX2_feelHeat_176 rfl rfl ?_
              refine zs_get 0 dX2_feelHeat_177 zf_RX2_9 rfl (v := .ref (ad 1)) rfl ?_
              refine zs_iload_n dX2_feelHeat_180 rfl ?_
              refine zs_iald 1 dX2_feelHeat_181 rfl (vp_in_nI (by omega) (by omega)) ?_
              refine zs_as (y := fu (y * C + i)) (by rw [nI_c (by omega)]) ?_
              refine zs_aload_n dX2_feelHeat_182 rfl rfl ?_
              refine zs_iconst (v := 3) dX2_feelHeat_183 (by decide) ?_
              refine zs_callV (M := mX2_windTo) (As := [.int 3]) (st := [.int (fu (y * C + i)), .int ((upd (upd (pHr C R (sc 3) fu bu y H i) (y * C + i - C) (((pHr C R (sc 3) fu bu y H i) (y * C + i - C)) + ((fu (y * C + i)) * (pWind (sc 3) 0)))) (y * C + i + 1) (((upd (pHr C R (sc 3) fu bu y H i) (y * C + i - C) (((pHr C R (sc 3) fu bu y H i) (y * C + i - C)) + ((fu (y * C + i)) * (pWind (sc 3) 0)))) (y * C + i + 1)) + ((fu (y * C + i)) * (pWind (sc 3) 1)))) (y * C + i - 1)), .int (nI (y * C + i - 1)), .ref (ad 4)]) (Kc := [(t, .inr (1, fFire ad sc))]) (Kr := [(ad 1, .inl (0, 64, .inl fu)), (ad 2, .inl (0, 64, .inl we)), (ad 3, .inl (1, 64, .inl bu)), (ad 4, .inl (0, 64, .inl (upd (upd (pHr C R (sc 3) fu bu y H i) (y * C + i - C) (((pHr C R (sc 3) fu bu y H i) (y * C + i - C)) + ((fu (y * C + i)) * (pWind (sc 3) 0)))) (y * C + i + 1) (((upd (pHr C R (sc 3) fu bu y H i) (y * C + i - C) (((pHr C R (sc 3) fu bu y H i) (y * C + i - C)) + ((fu (y * C + i)) * (pWind (sc 3) 0)))) (y * C + i + 1)) + ((fu (y * C + i)) * (pWind (sc 3) 1)))))), (ad 5, .inl (0, 60, .inl se))]) [0] [1, 2, 3, 4, 5] 0 dX2_feelHeat_184 zl_RX2_74 kX2_windTo rfl rfl rfl rfl rfl (by decide) rfl rfl (show dd - 1 + 1 ≤ dd by omega) (Nat.zero_le _) (Nat.zero_le _) (Nat.le_of_ble_eq_true rfl) (s_windTo l (dd - 1) t ad sc 3) (fun r K1 hr => ?_)
              obtain ⟨rfl, rfl⟩ := hr
              refine zs_K (K' := [(t, .inr (1, fFire ad sc)), (ad 1, .inl (0, 64, .inl fu)), (ad 2, .inl (0, 64, .inl we)), (ad 3, .inl (1, 64, .inl bu)), (ad 4, .inl (0, 64, .inl (upd (upd (pHr C R (sc 3) fu bu y H i) (y * C + i - C) (((pHr C R (sc 3) fu bu y H i) (y * C + i - C)) + ((fu (y * C + i)) * (pWind (sc 3) 0)))) (y * C + i + 1) (((upd (pHr C R (sc 3) fu bu y H i) (y * C + i - C) (((pHr C R (sc 3) fu bu y H i) (y * C + i - C)) + ((fu (y * C + i)) * (pWind (sc 3) 0)))) (y * C + i + 1)) + ((fu (y * C + i)) * (pWind (sc 3) 1)))))), (ad 5, .inl (0, 60, .inl se))]) [5, 0, 1, 2, 3, 4] rfl (by decide) ?_
              refine zs_imul dX2_feelHeat_187 ?_
              refine zs_iadd dX2_feelHeat_188 ?_
              refine zs_iast 4 dX2_feelHeat_189 rfl (vp_in_nI (by omega) (by omega)) ?_
              show zS _ _ _ _ _ _ [(t, .inr (1, fFire ad sc)), (ad 1, .inl (0, 64, .inl fu)), (ad 2, .inl (0, 64, .inl we)), (ad 3, .inl (1, 64, .inl bu)), (ad 4, .inl (0, 64, .inl (upd (upd (upd (pHr C R (sc 3) fu bu y H i) (y * C + i - C) (((pHr C R (sc 3) fu bu y H i) (y * C + i - C)) + ((fu (y * C + i)) * (pWind (sc 3) 0)))) (y * C + i + 1) (((upd (pHr C R (sc 3) fu bu y H i) (y * C + i - C) (((pHr C R (sc 3) fu bu y H i) (y * C + i - C)) + ((fu (y * C + i)) * (pWind (sc 3) 0)))) (y * C + i + 1)) + ((fu (y * C + i)) * (pWind (sc 3) 1)))) (nI (y * C + i - 1)).toNatClampNeg (((upd (upd (pHr C R (sc 3) fu bu y H i) (y * C + i - C) (((pHr C R (sc 3) fu bu y H i) (y * C + i - C)) + ((fu (y * C + i)) * (pWind (sc 3) 0)))) (y * C + i + 1) (((upd (pHr C R (sc 3) fu bu y H i) (y * C + i - C) (((pHr C R (sc 3) fu bu y H i) (y * C + i - C)) + ((fu (y * C + i)) * (pWind (sc 3) 0)))) (y * C + i + 1)) + ((fu (y * C + i)) * (pWind (sc 3) 1)))) (y * C + i - 1)) + ((fu (y * C + i)) * (pWind (sc 3) 3)))))), (ad 5, .inl (0, 60, .inl se))]
              rw [nI_c (n := y * C + i - 1) (by omega)]
              refine zs_iinc (v := (nI (i + 1))) (lv' := [(2, .int (nI (i + 1))), (3, .int (nI (y * C + i))), (0, .ref t), (1, .int (nI y))]) dX2_feelHeat_190 rfl (nI_s1 i) (Nat.le_of_ble_eq_true rfl) rfl ?_
              refine zs_goto (tgt := 35) dX2_feelHeat_193 (by decide) ?_
              have hE : (upd (upd (upd (pHr C R (sc 3) fu bu y H i) (y * C + i - C) (((pHr C R (sc 3) fu bu y H i) (y * C + i - C)) + ((fu (y * C + i)) * (pWind (sc 3) 0)))) (y * C + i + 1) (((upd (pHr C R (sc 3) fu bu y H i) (y * C + i - C) (((pHr C R (sc 3) fu bu y H i) (y * C + i - C)) + ((fu (y * C + i)) * (pWind (sc 3) 0)))) (y * C + i + 1)) + ((fu (y * C + i)) * (pWind (sc 3) 1)))) (y * C + i - 1) (((upd (upd (pHr C R (sc 3) fu bu y H i) (y * C + i - C) (((pHr C R (sc 3) fu bu y H i) (y * C + i - C)) + ((fu (y * C + i)) * (pWind (sc 3) 0)))) (y * C + i + 1) (((upd (pHr C R (sc 3) fu bu y H i) (y * C + i - C) (((pHr C R (sc 3) fu bu y H i) (y * C + i - C)) + ((fu (y * C + i)) * (pWind (sc 3) 0)))) (y * C + i + 1)) + ((fu (y * C + i)) * (pWind (sc 3) 1)))) (y * C + i - 1)) + ((fu (y * C + i)) * (pWind (sc 3) 3)))) = pHr C R (sc 3) fu bu y H (i + 1) := (by simp only [pHr]; rw [if_neg hb]; simp only [pHs, if_pos q1, if_pos q2, if_neg q3, if_pos q4])
              rw [hE]
              refine zs_lv [2, 3, 0] rfl ?_
              exact ih (i + 1) (by omega)
          · have q3 : y + 1 < R := by have hc := c_15; rw [nI_le' (by omega) (by omega)] at hc; omega
            have q3C : y * C + C + C ≤ R * C := by have e2 : (y + 2) * C ≤ R * C := Nat.mul_le_mul_right C (by omega); rw [Nat.add_mul, Nat.two_mul] at e2; omega
            refine zs_aload_n dX2_feelHeat_137 rfl rfl ?_
            refine zs_get 0 dX2_feelHeat_138 zf_RX2_22 rfl (v := .ref (ad 4)) rfl ?_
            refine zs_iload_n dX2_feelHeat_141 rfl ?_
            refine zs_aload_n dX2_feelHeat_142 rfl rfl ?_
            refine zs_get 0 dX2_feelHeat_143 zf_RX2_37 rfl (v := .int (sc 0)) rfl ?_
            refine zs_iadd dX2_feelHeat_146 ?_
            refine zs_as (y := nI (y * C + i + C)) (by rw [hs0, nI_add]) ?_
            refine zs_dup2 dX2_feelHeat_147 rfl rfl ?_
            refine zs_iald 4 dX2_feelHeat_148 rfl (vp_in_nI (by omega) (by omega)) ?_
            refine zs_as (y := (upd (upd (pHr C R (sc 3) fu bu y H i) (y * C + i - C) (((pHr C R (sc 3) fu bu y H i) (y * C + i - C)) + ((fu (y * C + i)) * (pWind (sc 3) 0)))) (y * C + i + 1) (((upd (pHr C R (sc 3) fu bu y H i) (y * C + i - C) (((pHr C R (sc 3) fu bu y H i) (y * C + i - C)) + ((fu (y * C + i)) * (pWind (sc 3) 0)))) (y * C + i + 1)) + ((fu (y * C + i)) * (pWind (sc 3) 1)))) (y * C + i + C)) (by rw [nI_c (by omega)]) ?_
            refine zs_aload_n dX2_feelHeat_149 rfl rfl ?_
            refine zs_get 0 dX2_feelHeat_150 zf_RX2_9 rfl (v := .ref (ad 1)) rfl ?_
            refine zs_iload_n dX2_feelHeat_153 rfl ?_
            refine zs_iald 1 dX2_feelHeat_154 rfl (vp_in_nI (by omega) (by omega)) ?_
            refine zs_as (y := fu (y * C + i)) (by rw [nI_c (by omega)]) ?_
            refine zs_aload_n dX2_feelHeat_155 rfl rfl ?_
            refine zs_iconst (v := 2) dX2_feelHeat_156 (by decide) ?_
            refine zs_callV (M := mX2_windTo) (As := [.int 2]) (st := [.int (fu (y * C + i)), .int ((upd (upd (pHr C R (sc 3) fu bu y H i) (y * C + i - C) (((pHr C R (sc 3) fu bu y H i) (y * C + i - C)) + ((fu (y * C + i)) * (pWind (sc 3) 0)))) (y * C + i + 1) (((upd (pHr C R (sc 3) fu bu y H i) (y * C + i - C) (((pHr C R (sc 3) fu bu y H i) (y * C + i - C)) + ((fu (y * C + i)) * (pWind (sc 3) 0)))) (y * C + i + 1)) + ((fu (y * C + i)) * (pWind (sc 3) 1)))) (y * C + i + C)), .int (nI (y * C + i + C)), .ref (ad 4)]) (Kc := [(t, .inr (1, fFire ad sc))]) (Kr := [(ad 1, .inl (0, 64, .inl fu)), (ad 2, .inl (0, 64, .inl we)), (ad 3, .inl (1, 64, .inl bu)), (ad 4, .inl (0, 64, .inl (upd (upd (pHr C R (sc 3) fu bu y H i) (y * C + i - C) (((pHr C R (sc 3) fu bu y H i) (y * C + i - C)) + ((fu (y * C + i)) * (pWind (sc 3) 0)))) (y * C + i + 1) (((upd (pHr C R (sc 3) fu bu y H i) (y * C + i - C) (((pHr C R (sc 3) fu bu y H i) (y * C + i - C)) + ((fu (y * C + i)) * (pWind (sc 3) 0)))) (y * C + i + 1)) + ((fu (y * C + i)) * (pWind (sc 3) 1)))))), (ad 5, .inl (0, 60, .inl se))]) [0] [1, 2, 3, 4, 5] 0 dX2_feelHeat_157 zl_RX2_74 kX2_windTo rfl rfl rfl rfl rfl (by decide) rfl rfl (show dd - 1 + 1 ≤ dd by omega) (Nat.zero_le _) (Nat.zero_le _) (Nat.le_of_ble_eq_true rfl) (s_windTo l (dd - 1) t ad sc 2) (fun r K1 hr => ?_)
            obtain ⟨rfl, rfl⟩ := hr
            refine zs_K (K' := [(t, .inr (1, fFire ad sc)), (ad 1, .inl (0, 64, .inl fu)), (ad 2, .inl (0, 64, .inl we)), (ad 3, .inl (1, 64, .inl bu)), (ad 4, .inl (0, 64, .inl (upd (upd (pHr C R (sc 3) fu bu y H i) (y * C + i - C) (((pHr C R (sc 3) fu bu y H i) (y * C + i - C)) + ((fu (y * C + i)) * (pWind (sc 3) 0)))) (y * C + i + 1) (((upd (pHr C R (sc 3) fu bu y H i) (y * C + i - C) (((pHr C R (sc 3) fu bu y H i) (y * C + i - C)) + ((fu (y * C + i)) * (pWind (sc 3) 0)))) (y * C + i + 1)) + ((fu (y * C + i)) * (pWind (sc 3) 1)))))), (ad 5, .inl (0, 60, .inl se))]) [5, 0, 1, 2, 3, 4] rfl (by decide) ?_
            refine zs_imul dX2_feelHeat_160 ?_
            refine zs_iadd dX2_feelHeat_161 ?_
            refine zs_iast 4 dX2_feelHeat_162 rfl (vp_in_nI (by omega) (by omega)) ?_
            show zS _ _ _ _ _ _ [(t, .inr (1, fFire ad sc)), (ad 1, .inl (0, 64, .inl fu)), (ad 2, .inl (0, 64, .inl we)), (ad 3, .inl (1, 64, .inl bu)), (ad 4, .inl (0, 64, .inl (upd (upd (upd (pHr C R (sc 3) fu bu y H i) (y * C + i - C) (((pHr C R (sc 3) fu bu y H i) (y * C + i - C)) + ((fu (y * C + i)) * (pWind (sc 3) 0)))) (y * C + i + 1) (((upd (pHr C R (sc 3) fu bu y H i) (y * C + i - C) (((pHr C R (sc 3) fu bu y H i) (y * C + i - C)) + ((fu (y * C + i)) * (pWind (sc 3) 0)))) (y * C + i + 1)) + ((fu (y * C + i)) * (pWind (sc 3) 1)))) (nI (y * C + i + C)).toNatClampNeg (((upd (upd (pHr C R (sc 3) fu bu y H i) (y * C + i - C) (((pHr C R (sc 3) fu bu y H i) (y * C + i - C)) + ((fu (y * C + i)) * (pWind (sc 3) 0)))) (y * C + i + 1) (((upd (pHr C R (sc 3) fu bu y H i) (y * C + i - C) (((pHr C R (sc 3) fu bu y H i) (y * C + i - C)) + ((fu (y * C + i)) * (pWind (sc 3) 0)))) (y * C + i + 1)) + ((fu (y * C + i)) * (pWind (sc 3) 1)))) (y * C + i + C)) + ((fu (y * C + i)) * (pWind (sc 3) 2)))))), (ad 5, .inl (0, 60, .inl se))]
            rw [nI_c (n := y * C + i + C) (by omega)]
            refine zs_iload_n dX2_feelHeat_163 rfl ?_
            refine zs_if_le (tgt := 190) dX2_feelHeat_164 (by decide) (fun c_17 => ?_) (fun c_17 => ?_)
            · have q4 : ¬ 0 < i := by have hc := c_17; rw [show (0 : Int32) = nI 0 from rfl] at hc; rw [nI_le' (by omega) (by omega)] at hc; omega
              refine zs_iinc (v := (nI (i + 1))) (lv' := [(2, .int (nI (i + 1))), (3, .int (nI (y * C + i))), (0, .ref t), (1, .int (nI y))]) dX2_feelHeat_190 rfl (nI_s1 i) (Nat.le_of_ble_eq_true rfl) rfl ?_
              refine zs_goto (tgt := 35) dX2_feelHeat_193 (by decide) ?_
              have hE : (upd (upd (upd (pHr C R (sc 3) fu bu y H i) (y * C + i - C) (((pHr C R (sc 3) fu bu y H i) (y * C + i - C)) + ((fu (y * C + i)) * (pWind (sc 3) 0)))) (y * C + i + 1) (((upd (pHr C R (sc 3) fu bu y H i) (y * C + i - C) (((pHr C R (sc 3) fu bu y H i) (y * C + i - C)) + ((fu (y * C + i)) * (pWind (sc 3) 0)))) (y * C + i + 1)) + ((fu (y * C + i)) * (pWind (sc 3) 1)))) (y * C + i + C) (((upd (upd (pHr C R (sc 3) fu bu y H i) (y * C + i - C) (((pHr C R (sc 3) fu bu y H i) (y * C + i - C)) + ((fu (y * C + i)) * (pWind (sc 3) 0)))) (y * C + i + 1) (((upd (pHr C R (sc 3) fu bu y H i) (y * C + i - C) (((pHr C R (sc 3) fu bu y H i) (y * C + i - C)) + ((fu (y * C + i)) * (pWind (sc 3) 0)))) (y * C + i + 1)) + ((fu (y * C + i)) * (pWind (sc 3) 1)))) (y * C + i + C)) + ((fu (y * C + i)) * (pWind (sc 3) 2)))) = pHr C R (sc 3) fu bu y H (i + 1) := (by simp only [pHr]; rw [if_neg hb]; simp only [pHs, if_pos q1, if_pos q2, if_pos q3, if_neg q4])
              rw [hE]
              refine zs_lv [2, 3, 0] rfl ?_
              exact ih (i + 1) (by omega)
            · have q4 : 0 < i := by have hc := c_17; rw [show (0 : Int32) = nI 0 from rfl] at hc; rw [nI_le' (by omega) (by omega)] at hc; omega
              refine zs_aload_n dX2_feelHeat_167 rfl rfl ?_
              refine zs_get 0 dX2_feelHeat_168 zf_RX2_22 rfl (v := .ref (ad 4)) rfl ?_
              refine zs_iload_n dX2_feelHeat_171 rfl ?_
              refine zs_iconst (v := 1) dX2_feelHeat_172 (by decide) ?_
              refine zs_isub dX2_feelHeat_173 ?_
              refine zs_as (y := nI (y * C + i - 1)) (nI_sub (b := 1) (by omega)) ?_
              refine zs_dup2 dX2_feelHeat_174 rfl rfl ?_
              refine zs_iald 4 dX2_feelHeat_175 rfl (vp_in_nI (by omega) (by omega)) ?_
              refine zs_as (y := (upd (upd (upd (pHr C R (sc 3) fu bu y H i) (y * C + i - C) (((pHr C R (sc 3) fu bu y H i) (y * C + i - C)) + ((fu (y * C + i)) * (pWind (sc 3) 0)))) (y * C + i + 1) (((upd (pHr C R (sc 3) fu bu y H i) (y * C + i - C) (((pHr C R (sc 3) fu bu y H i) (y * C + i - C)) + ((fu (y * C + i)) * (pWind (sc 3) 0)))) (y * C + i + 1)) + ((fu (y * C + i)) * (pWind (sc 3) 1)))) (y * C + i + C) (((upd (upd (pHr C R (sc 3) fu bu y H i) (y * C + i - C) (((pHr C R (sc 3) fu bu y H i) (y * C + i - C)) + ((fu (y * C + i)) * (pWind (sc 3) 0)))) (y * C + i + 1) (((upd (pHr C R (sc 3) fu bu y H i) (y * C + i - C) (((pHr C R (sc 3) fu bu y H i) (y * C + i - C)) + ((fu (y * C + i)) * (pWind (sc 3) 0)))) (y * C + i + 1)) + ((fu (y * C + i)) * (pWind (sc 3) 1)))) (y * C + i + C)) + ((fu (y * C + i)) * (pWind (sc 3) 2)))) (y * C + i - 1)) (by rw [nI_c (by omega)]) ?_
              refine zs_aload_n dX2_feelHeat_176 rfl rfl ?_
              refine zs_get 0 dX2_feelHeat_177 zf_RX2_9 rfl (v := .ref (ad 1)) rfl ?_
              refine zs_iload_n dX2_feelHeat_180 rfl ?_
              refine zs_iald 1 dX2_feelHeat_181 rfl (vp_in_nI (by omega) (by omega)) ?_
              refine zs_as (y := fu (y * C + i)) (by rw [nI_c (by omega)]) ?_
              refine zs_aload_n dX2_feelHeat_182 rfl rfl ?_
              refine zs_iconst (v := 3) dX2_feelHeat_183 (by decide) ?_
              refine zs_callV (M := mX2_windTo) (As := [.int 3]) (st := [.int (fu (y * C + i)), .int ((upd (upd (upd (pHr C R (sc 3) fu bu y H i) (y * C + i - C) (((pHr C R (sc 3) fu bu y H i) (y * C + i - C)) + ((fu (y * C + i)) * (pWind (sc 3) 0)))) (y * C + i + 1) (((upd (pHr C R (sc 3) fu bu y H i) (y * C + i - C) (((pHr C R (sc 3) fu bu y H i) (y * C + i - C)) + ((fu (y * C + i)) * (pWind (sc 3) 0)))) (y * C + i + 1)) + ((fu (y * C + i)) * (pWind (sc 3) 1)))) (y * C + i + C) (((upd (upd (pHr C R (sc 3) fu bu y H i) (y * C + i - C) (((pHr C R (sc 3) fu bu y H i) (y * C + i - C)) + ((fu (y * C + i)) * (pWind (sc 3) 0)))) (y * C + i + 1) (((upd (pHr C R (sc 3) fu bu y H i) (y * C + i - C) (((pHr C R (sc 3) fu bu y H i) (y * C + i - C)) + ((fu (y * C + i)) * (pWind (sc 3) 0)))) (y * C + i + 1)) + ((fu (y * C + i)) * (pWind (sc 3) 1)))) (y * C + i + C)) + ((fu (y * C + i)) * (pWind (sc 3) 2)))) (y * C + i - 1)), .int (nI (y * C + i - 1)), .ref (ad 4)]) (Kc := [(t, .inr (1, fFire ad sc))]) (Kr := [(ad 1, .inl (0, 64, .inl fu)), (ad 2, .inl (0, 64, .inl we)), (ad 3, .inl (1, 64, .inl bu)), (ad 4, .inl (0, 64, .inl (upd (upd (upd (pHr C R (sc 3) fu bu y H i) (y * C + i - C) (((pHr C R (sc 3) fu bu y H i) (y * C + i - C)) + ((fu (y * C + i)) * (pWind (sc 3) 0)))) (y * C + i + 1) (((upd (pHr C R (sc 3) fu bu y H i) (y * C + i - C) (((pHr C R (sc 3) fu bu y H i) (y * C + i - C)) + ((fu (y * C + i)) * (pWind (sc 3) 0)))) (y * C + i + 1)) + ((fu (y * C + i)) * (pWind (sc 3) 1)))) (y * C + i + C) (((upd (upd (pHr C R (sc 3) fu bu y H i) (y * C + i - C) (((pHr C R (sc 3) fu bu y H i) (y * C + i - C)) + ((fu (y * C + i)) * (pWind (sc 3) 0)))) (y * C + i + 1) (((upd (pHr C R (sc 3) fu bu y H i) (y * C + i - C) (((pHr C R (sc 3) fu bu y H i) (y * C + i - C)) + ((fu (y * C + i)) * (pWind (sc 3) 0)))) (y * C + i + 1)) + ((fu (y * C + i)) * (pWind (sc 3) 1)))) (y * C + i + C)) + ((fu (y * C + i)) * (pWind (sc 3) 2)))))), (ad 5, .inl (0, 60, .inl se))]) [0] [1, 2, 3, 4, 5] 0 dX2_feelHeat_184 zl_RX2_74 kX2_windTo rfl rfl rfl rfl rfl (by decide) rfl rfl (show dd - 1 + 1 ≤ dd by omega) (Nat.zero_le _) (Nat.zero_le _) (Nat.le_of_ble_eq_true rfl) (s_windTo l (dd - 1) t ad sc 3) (fun r K1 hr => ?_)
              obtain ⟨rfl, rfl⟩ := hr
              refine zs_K (K' := [(t, .inr (1, fFire ad sc)), (ad 1, .inl (0, 64, .inl fu)), (ad 2, .inl (0, 64, .inl we)), (ad 3, .inl (1, 64, .inl bu)), (ad 4, .inl (0, 64, .inl (upd (upd (upd (pHr C R (sc 3) fu bu y H i) (y * C + i - C) (((pHr C R (sc 3) fu bu y H i) (y * C + i - C)) + ((fu (y * C + i)) * (pWind (sc 3) 0)))) (y * C + i + 1) (((upd (pHr C R (sc 3) fu bu y H i) (y * C + i - C) (((pHr C R (sc 3) fu bu y H i) (y * C + i - C)) + ((fu (y * C + i)) * (pWind (sc 3) 0)))) (y * C + i + 1)) + ((fu (y * C + i)) * (pWind (sc 3) 1)))) (y * C + i + C) (((upd (upd (pHr C R (sc 3) fu bu y H i) (y * C + i - C) (((pHr C R (sc 3) fu bu y H i) (y * C + i - C)) + ((fu (y * C + i)) * (pWind (sc 3) 0)))) (y * C + i + 1) (((upd (pHr C R (sc 3) fu bu y H i) (y * C + i - C) (((pHr C R (sc 3) fu bu y H i) (y * C + i - C)) + ((fu (y * C + i)) * (pWind (sc 3) 0)))) (y * C + i + 1)) + ((fu (y * C + i)) * (pWind (sc 3) 1)))) (y * C + i + C)) + ((fu (y * C + i)) * (pWind (sc 3) 2)))))), (ad 5, .inl (0, 60, .inl se))]) [5, 0, 1, 2, 3, 4] rfl (by decide) ?_
              refine zs_imul dX2_feelHeat_187 ?_
              refine zs_iadd dX2_feelHeat_188 ?_
              refine zs_iast 4 dX2_feelHeat_189 rfl (vp_in_nI (by omega) (by omega)) ?_
              show zS _ _ _ _ _ _ [(t, .inr (1, fFire ad sc)), (ad 1, .inl (0, 64, .inl fu)), (ad 2, .inl (0, 64, .inl we)), (ad 3, .inl (1, 64, .inl bu)), (ad 4, .inl (0, 64, .inl (upd (upd (upd (upd (pHr C R (sc 3) fu bu y H i) (y * C + i - C) (((pHr C R (sc 3) fu bu y H i) (y * C + i - C)) + ((fu (y * C + i)) * (pWind (sc 3) 0)))) (y * C + i + 1) (((upd (pHr C R (sc 3) fu bu y H i) (y * C + i - C) (((pHr C R (sc 3) fu bu y H i) (y * C + i - C)) + ((fu (y * C + i)) * (pWind (sc 3) 0)))) (y * C + i + 1)) + ((fu (y * C + i)) * (pWind (sc 3) 1)))) (y * C + i + C) (((upd (upd (pHr C R (sc 3) fu bu y H i) (y * C + i - C) (((pHr C R (sc 3) fu bu y H i) (y * C + i - C)) + ((fu (y * C + i)) * (pWind (sc 3) 0)))) (y * C + i + 1) (((upd (pHr C R (sc 3) fu bu y H i) (y * C + i - C) (((pHr C R (sc 3) fu bu y H i) (y * C + i - C)) + ((fu (y * C + i)) * (pWind (sc 3) 0)))) (y * C + i + 1)) + ((fu (y * C + i)) * (pWind (sc 3) 1)))) (y * C + i + C)) + ((fu (y * C + i)) * (pWind (sc 3) 2)))) (nI (y * C + i - 1)).toNatClampNeg (((upd (upd (upd (pHr C R (sc 3) fu bu y H i) (y * C + i - C) (((pHr C R (sc 3) fu bu y H i) (y * C + i - C)) + ((fu (y * C + i)) * (pWind (sc 3) 0)))) (y * C + i + 1) (((upd (pHr C R (sc 3) fu bu y H i) (y * C + i - C) (((pHr C R (sc 3) fu bu y H i) (y * C + i - C)) + ((fu (y * C + i)) * (pWind (sc 3) 0)))) (y * C + i + 1)) + ((fu (y * C + i)) * (pWind (sc 3) 1)))) (y * C + i + C) (((upd (upd (pHr C R (sc 3) fu bu y H i) (y * C + i - C) (((pHr C R (sc 3) fu bu y H i) (y * C + i - C)) + ((fu (y * C + i)) * (pWind (sc 3) 0)))) (y * C + i + 1) (((upd (pHr C R (sc 3) fu bu y H i) (y * C + i - C) (((pHr C R (sc 3) fu bu y H i) (y * C + i - C)) + ((fu (y * C + i)) * (pWind (sc 3) 0)))) (y * C + i + 1)) + ((fu (y * C + i)) * (pWind (sc 3) 1)))) (y * C + i + C)) + ((fu (y * C + i)) * (pWind (sc 3) 2)))) (y * C + i - 1)) + ((fu (y * C + i)) * (pWind (sc 3) 3)))))), (ad 5, .inl (0, 60, .inl se))]
              rw [nI_c (n := y * C + i - 1) (by omega)]
              refine zs_iinc (v := (nI (i + 1))) (lv' := [(2, .int (nI (i + 1))), (3, .int (nI (y * C + i))), (0, .ref t), (1, .int (nI y))]) dX2_feelHeat_190 rfl (nI_s1 i) (Nat.le_of_ble_eq_true rfl) rfl ?_
              refine zs_goto (tgt := 35) dX2_feelHeat_193 (by decide) ?_
              have hE : (upd (upd (upd (upd (pHr C R (sc 3) fu bu y H i) (y * C + i - C) (((pHr C R (sc 3) fu bu y H i) (y * C + i - C)) + ((fu (y * C + i)) * (pWind (sc 3) 0)))) (y * C + i + 1) (((upd (pHr C R (sc 3) fu bu y H i) (y * C + i - C) (((pHr C R (sc 3) fu bu y H i) (y * C + i - C)) + ((fu (y * C + i)) * (pWind (sc 3) 0)))) (y * C + i + 1)) + ((fu (y * C + i)) * (pWind (sc 3) 1)))) (y * C + i + C) (((upd (upd (pHr C R (sc 3) fu bu y H i) (y * C + i - C) (((pHr C R (sc 3) fu bu y H i) (y * C + i - C)) + ((fu (y * C + i)) * (pWind (sc 3) 0)))) (y * C + i + 1) (((upd (pHr C R (sc 3) fu bu y H i) (y * C + i - C) (((pHr C R (sc 3) fu bu y H i) (y * C + i - C)) + ((fu (y * C + i)) * (pWind (sc 3) 0)))) (y * C + i + 1)) + ((fu (y * C + i)) * (pWind (sc 3) 1)))) (y * C + i + C)) + ((fu (y * C + i)) * (pWind (sc 3) 2)))) (y * C + i - 1) (((upd (upd (upd (pHr C R (sc 3) fu bu y H i) (y * C + i - C) (((pHr C R (sc 3) fu bu y H i) (y * C + i - C)) + ((fu (y * C + i)) * (pWind (sc 3) 0)))) (y * C + i + 1) (((upd (pHr C R (sc 3) fu bu y H i) (y * C + i - C) (((pHr C R (sc 3) fu bu y H i) (y * C + i - C)) + ((fu (y * C + i)) * (pWind (sc 3) 0)))) (y * C + i + 1)) + ((fu (y * C + i)) * (pWind (sc 3) 1)))) (y * C + i + C) (((upd (upd (pHr C R (sc 3) fu bu y H i) (y * C + i - C) (((pHr C R (sc 3) fu bu y H i) (y * C + i - C)) + ((fu (y * C + i)) * (pWind (sc 3) 0)))) (y * C + i + 1) (((upd (pHr C R (sc 3) fu bu y H i) (y * C + i - C) (((pHr C R (sc 3) fu bu y H i) (y * C + i - C)) + ((fu (y * C + i)) * (pWind (sc 3) 0)))) (y * C + i + 1)) + ((fu (y * C + i)) * (pWind (sc 3) 1)))) (y * C + i + C)) + ((fu (y * C + i)) * (pWind (sc 3) 2)))) (y * C + i - 1)) + ((fu (y * C + i)) * (pWind (sc 3) 3)))) = pHr C R (sc 3) fu bu y H (i + 1) := (by simp only [pHr]; rw [if_neg hb]; simp only [pHs, if_pos q1, if_pos q2, if_pos q3, if_pos q4])
              rw [hE]
              refine zs_lv [2, 3, 0] rfl ?_
              exact ih (i + 1) (by omega)
    · have hb : bu (y * C + i) = 0 := c_2
      refine zs_goto (tgt := 190) dX2_feelHeat_61 (by decide) ?_
      refine zs_iinc (v := (nI (i + 1))) (lv' := [(2, .int (nI (i + 1))), (3, .int (nI (y * C + i))), (0, .ref t), (1, .int (nI y))]) dX2_feelHeat_190 rfl (nI_s1 i) (Nat.le_of_ble_eq_true rfl) rfl ?_
      refine zs_goto (tgt := 35) dX2_feelHeat_193 (by decide) ?_
      have hE : (pHr C R (sc 3) fu bu y H i) = pHr C R (sc 3) fu bu y H (i + 1) := (by simp only [pHr]; rw [if_pos hb])
      rw [hE]
      refine zs_lv [2, 3, 0] rfl ?_
      exact ih (i + 1) (by omega)
set_option maxRecDepth 100000 in
theorem lp_feel1 {l : Launch} {dd : Nat} {Po : zPo} {K0 : zK} {h0 : List va_E} {Xo : zK → Prop} {Gc : zG → Prop} (t : Nat) (ad : Nat → Nat) (C R : Nat) (sc : Nat → Int32) (fu we bu he se H : Nat → Int32) (hd : 1 ≤ dd) (hR : R ≤ 64) (hn : C * R ≤ 64) (hs0 : sc 0 = nI C) (hs1 : sc 1 = nI R)
    (hk : zS (l, mX2_feelHeat, dd, Po, K0, h0, Xo, Gc) 0 0 202 [(0, .ref t), (1, .int (nI R))] [] [(t, .inr (1, fFire ad sc)), (ad 1, .inl (0, 64, .inl fu)), (ad 2, .inl (0, 64, .inl we)), (ad 3, .inl (1, 64, .inl bu)), (ad 4, .inl (0, 64, .inl (pHt C R (sc 3) fu bu H R))), (ad 5, .inl (0, 60, .inl se))]) :
    ∀ (m i : Nat) , i + m = R → zS (l, mX2_feelHeat, dd, Po, K0, h0, Xo, Gc) 0 0 25 [(0, .ref t), (1, .int (nI i))] [] [(t, .inr (1, fFire ad sc)), (ad 1, .inl (0, 64, .inl fu)), (ad 2, .inl (0, 64, .inl we)), (ad 3, .inl (1, 64, .inl bu)), (ad 4, .inl (0, 64, .inl (pHt C R (sc 3) fu bu H i))), (ad 5, .inl (0, 60, .inl se))] := by
  intro m
  induction m with
  | zero =>
    intro i hi
    have hin : i = R := by omega
    subst hin
    refine zs_iload_n dX2_feelHeat_25 rfl ?_
    refine zs_aload_n dX2_feelHeat_26 rfl rfl ?_
    refine zs_get 0 dX2_feelHeat_27 zf_RX2_41 rfl (v := .int (sc 1)) rfl ?_
    refine zs_icmp_ge (tgt := 202) dX2_feelHeat_30 (by decide) (fun c_1 => ?_) (fun c_1 => (c_1 (by rw [hs1]; exact Int32.le_refl _) : False).elim)
    exact hk
  | succ m ih =>
    intro i hi
    have hil : i < R := by omega
    refine zs_iload_n dX2_feelHeat_25 rfl ?_
    refine zs_aload_n dX2_feelHeat_26 rfl rfl ?_
    refine zs_get 0 dX2_feelHeat_27 zf_RX2_41 rfl (v := .int (sc 1)) rfl ?_
    refine zs_icmp_ge (tgt := 202) dX2_feelHeat_30 (by decide) (fun c_1 => (nI_ge hil (by omega) (hs1 ▸ c_1) : False).elim) (fun c_1 => ?_)
    refine zs_iconst (v := 0) dX2_feelHeat_33 (by decide) ?_
    refine zs_istore_n (lv' := [(2, .int 0), (0, .ref t), (1, .int (nI i))]) dX2_feelHeat_34 (Nat.le_of_ble_eq_true rfl) rfl ?_
    refine zs_lv [1, 2, 0] rfl ?_
    refine lp_feel2 t ad C R i sc fu we bu he se (pHt C R (sc 3) fu bu H i) hd hn hil hs0 hs1 ?_ C 0 (by omega)
    refine zs_iinc (v := (nI (i + 1))) (lv' := [(1, .int (nI (i + 1))), (0, .ref t), (2, .int (nI C))]) dX2_feelHeat_196 rfl (nI_s1 i) (Nat.le_of_ble_eq_true rfl) rfl ?_
    refine zs_goto (tgt := 25) dX2_feelHeat_199 (by decide) ?_
    refine zs_lv [1, 0] rfl ?_
    exact ih (i + 1) (by omega)
set_option maxRecDepth 100000 in
theorem s_feelHeat (l : Launch) (dd : Nat) (t : Nat) (ad : Nat → Nat) (C R : Nat) (sc : Nat → Int32) (fu we bu he se : Nat → Int32) (hd : 1 ≤ dd) (hR : R ≤ 64) (hn : C * R ≤ 64) (hs0 : sc 0 = nI C) (hs1 : sc 1 = nI R) (hsc : sc 2 = nI (C * R)) : zSp l mX2_feelHeat dd 0 0 [.ref t] [(t, .inr (1, fFire ad sc)), (ad 1, .inl (0, 64, .inl fu)), (ad 2, .inl (0, 64, .inl we)), (ad 3, .inl (1, 64, .inl bu)), (ad 4, .inl (0, 64, .inl he)), (ad 5, .inl (0, 60, .inl se))] (fun r K' => r = none ∧ K' = kFire t ad sc fu we bu (pFeel C R (sc 3) fu bu he) se) := by
  refine zSp.of (by decide) (Nat.le_of_ble_eq_true rfl) (fun h0 => ?_)
  show zS _ 0 0 0 [(0, .ref t)] [] [(t, .inr (1, fFire ad sc)), (ad 1, .inl (0, 64, .inl fu)), (ad 2, .inl (0, 64, .inl we)), (ad 3, .inl (1, 64, .inl bu)), (ad 4, .inl (0, 64, .inl he)), (ad 5, .inl (0, 60, .inl se))]
  refine zs_iconst (v := 0) dX2_feelHeat_0 (by decide) ?_
  refine zs_istore_n (lv' := [(1, .int 0), (0, .ref t)]) dX2_feelHeat_1 (Nat.le_of_ble_eq_true rfl) rfl ?_
  refine zs_lv [1, 0] rfl ?_
  refine lp_feel0 t ad (C * R) sc fu we bu he se hn hsc ?_ (C * R) 0 (by omega)
  refine zs_iconst (v := 0) dX2_feelHeat_23 (by decide) ?_
  refine zs_istore_n (lv' := [(1, .int 0), (0, .ref t)]) dX2_feelHeat_24 (Nat.le_of_ble_eq_true rfl) rfl ?_
  refine zs_lv [1, 0] rfl ?_
  refine lp_feel1 t ad C R sc fu we bu he se (pClr he (C * R)) hd hR hn hs0 hs1 ?_ R 0 (by omega)
  exact zs_vret dX2_feelHeat_202 rfl ⟨rfl, rfl⟩
