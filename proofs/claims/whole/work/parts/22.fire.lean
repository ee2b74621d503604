/-! ===== PailRow.Fire: hottest, aimed, begin, copy, burnFor, giveUp ===== -/
def pFl (fu bu he : Nat → Int32) : Nat → Int32 := fun k => if ¬ bu k = 0 then 0 else if fu k ≤ 0 then 0 else if he k ≤ 0 then 0 else 1
def pHot (fu bu he : Nat → Int32) (n : Nat) : Option Nat := pBst bMore he (pFl fu bu he) n
def pAim (C n : Nat) (fu bu hh : Nat → Int32) (a : Int32) : Int32 :=
  if a < 100 then (if a = 3 then (if eO (pHot fu bu hh n) = -1 then eO (pBst bMore fu bu n) else eO (pHot fu bu hh n)) else if a = 1 then eO (pBst bMore fu bu n) else if a = 2 then eO (pBst bLess fu bu n) else -1)
  else (a - 100) / 10 * nI C + ((a - 100) - (a - 100) / 10 * 10)
def fYard (ay : Nat → Nat) (ys : Nat → Int32) : List Value := [.int (ys 0), .ref (ay 1), .ref (ay 2), .ref (ay 3), .ref (ay 4), .int (ys 5), .int (ys 6), .int (ys 7), .int (ys 8), .int (ys 9), .int (ys 10), .int (ys 11), .int (ys 12), .int (ys 13), .int (ys 14), .int (ys 15), .ref (ay 5), .ref (ay 6), .int (ys 18)]
abbrev kYard (y : Nat) (ay : Nat → Nat) (ys : Nat → Int32) (nm hd pc pw yf yb : Nat → Int32) : zK := [(y, .inr (9, fYard ay ys)), (ay 1, .inl (0, 12, .inl nm)), (ay 2, .inl (0, 12, .inl hd)), (ay 3, .inl (0, 12, .inl pc)), (ay 4, .inl (0, 12, .inl pw)), (ay 5, .inl (0, 64, .inl yf)), (ay 6, .inl (1, 64, .inl yb))]
theorem dX2_hottest_0 : decode cX2_hottest 0 = .ok (.aload_n 0, 1) := by decide +kernel
theorem dX2_hottest_1 : decode cX2_hottest 1 = .ok (.invokevirtual 71, 3) := by decide +kernel
theorem dX2_hottest_4 : decode cX2_hottest 4 = .ok (.iconst (-1), 1) := by decide +kernel
theorem dX2_hottest_5 : decode cX2_hottest 5 = .ok (.istore_n 1, 1) := by decide +kernel
theorem dX2_hottest_6 : decode cX2_hottest 6 = .ok (.iconst 0, 1) := by decide +kernel
theorem dX2_hottest_7 : decode cX2_hottest 7 = .ok (.istore_n 2, 1) := by decide +kernel
theorem dX2_hottest_8 : decode cX2_hottest 8 = .ok (.iload_n 2, 1) := by decide +kernel
theorem dX2_hottest_9 : decode cX2_hottest 9 = .ok (.aload_n 0, 1) := by decide +kernel
theorem dX2_hottest_10 : decode cX2_hottest 10 = .ok (.getfield 42, 3) := by decide +kernel
theorem dX2_hottest_13 : decode cX2_hottest 13 = .ok (.if_icmp .ge 68, 3) := by decide +kernel
theorem dX2_hottest_16 : decode cX2_hottest 16 = .ok (.aload_n 0, 1) := by decide +kernel
theorem dX2_hottest_17 : decode cX2_hottest 17 = .ok (.getfield 18, 3) := by decide +kernel
theorem dX2_hottest_20 : decode cX2_hottest 20 = .ok (.iload_n 2, 1) := by decide +kernel
theorem dX2_hottest_21 : decode cX2_hottest 21 = .ok (.baload, 1) := by decide +kernel
theorem dX2_hottest_22 : decode cX2_hottest 22 = .ok (.ifCond .ne 25, 3) := by decide +kernel
theorem dX2_hottest_25 : decode cX2_hottest 25 = .ok (.aload_n 0, 1) := by decide +kernel
theorem dX2_hottest_26 : decode cX2_hottest 26 = .ok (.getfield 9, 3) := by decide +kernel
theorem dX2_hottest_29 : decode cX2_hottest 29 = .ok (.iload_n 2, 1) := by decide +kernel
theorem dX2_hottest_30 : decode cX2_hottest 30 = .ok (.iaload, 1) := by decide +kernel
theorem dX2_hottest_31 : decode cX2_hottest 31 = .ok (.ifCond .le 16, 3) := by decide +kernel
theorem dX2_hottest_34 : decode cX2_hottest 34 = .ok (.aload_n 0, 1) := by decide +kernel
theorem dX2_hottest_35 : decode cX2_hottest 35 = .ok (.getfield 22, 3) := by decide +kernel
theorem dX2_hottest_38 : decode cX2_hottest 38 = .ok (.iload_n 2, 1) := by decide +kernel
theorem dX2_hottest_39 : decode cX2_hottest 39 = .ok (.iaload, 1) := by decide +kernel
theorem dX2_hottest_40 : decode cX2_hottest 40 = .ok (.ifCond .le 7, 3) := by decide +kernel
theorem dX2_hottest_43 : decode cX2_hottest 43 = .ok (.iconst 1, 1) := by decide +kernel
theorem dX2_hottest_44 : decode cX2_hottest 44 = .ok (.goto 4, 3) := by decide +kernel
theorem dX2_hottest_47 : decode cX2_hottest 47 = .ok (.iconst 0, 1) := by decide +kernel
theorem dX2_hottest_48 : decode cX2_hottest 48 = .ok (.istore_n 3, 1) := by decide +kernel
theorem dX2_hottest_49 : decode cX2_hottest 49 = .ok (.iload_n 3, 1) := by decide +kernel
theorem dX2_hottest_50 : decode cX2_hottest 50 = .ok (.ifCond .eq 25, 3) := by decide +kernel
theorem dX2_hottest_53 : decode cX2_hottest 53 = .ok (.iload_n 1, 1) := by decide +kernel
theorem dX2_hottest_54 : decode cX2_hottest 54 = .ok (.iconst (-1), 1) := by decide +kernel
theorem dX2_hottest_55 : decode cX2_hottest 55 = .ok (.if_icmp .eq 18, 3) := by decide +kernel
theorem dX2_hottest_58 : decode cX2_hottest 58 = .ok (.aload_n 0, 1) := by decide +kernel
theorem dX2_hottest_59 : decode cX2_hottest 59 = .ok (.getfield 22, 3) := by decide +kernel
theorem dX2_hottest_62 : decode cX2_hottest 62 = .ok (.iload_n 2, 1) := by decide +kernel
theorem dX2_hottest_63 : decode cX2_hottest 63 = .ok (.iaload, 1) := by decide +kernel
theorem dX2_hottest_64 : decode cX2_hottest 64 = .ok (.aload_n 0, 1) := by decide +kernel
theorem dX2_hottest_65 : decode cX2_hottest 65 = .ok (.getfield 22, 3) := by decide +kernel
theorem dX2_hottest_68 : decode cX2_hottest 68 = .ok (.iload_n 1, 1) := by decide +kernel
theorem dX2_hottest_69 : decode cX2_hottest 69 = .ok (.iaload, 1) := by decide +kernel
theorem dX2_hottest_70 : decode cX2_hottest 70 = .ok (.if_icmp .le 5, 3) := by decide +kernel
theorem dX2_hottest_73 : decode cX2_hottest 73 = .ok (.iload_n 2, 1) := by decide +kernel
theorem dX2_hottest_74 : decode cX2_hottest 74 = .ok (.istore_n 1, 1) := by decide +kernel
theorem dX2_hottest_75 : decode cX2_hottest 75 = .ok (.iinc 2 1, 3) := by decide +kernel
theorem dX2_hottest_78 : decode cX2_hottest 78 = .ok (.goto (-70), 3) := by decide +kernel
theorem dX2_hottest_81 : decode cX2_hottest 81 = .ok (.iload_n 1, 1) := by decide +kernel
theorem dX2_hottest_82 : decode cX2_hottest 82 = .ok (.ireturn, 1) := by decide +kernel
set_option maxRecDepth 100000 in
theorem lp_hot {l : Launch} {dd : Nat} {Po : zPo} {K0 : zK} {h0 : List va_E} {Xo : zK → Prop} {Gc : zG → Prop} (t : Nat) (ad : Nat → Nat) (n : Nat) (sc : Nat → Int32) (fu we bu he se : Nat → Int32) (hn : n ≤ 64) (hsc : sc 2 = nI n)
    (hk : ∀ found, found = eO (pHot fu bu he n) → zS (l, mX2_hottest, dd, Po, K0, h0, Xo, Gc) 0 0 81 [(0, .ref t), (1, .int found), (2, .int (nI n))] [] [(t, .inr (1, fFire ad sc)), (ad 1, .inl (0, 64, .inl fu)), (ad 2, .inl (0, 64, .inl we)), (ad 3, .inl (1, 64, .inl bu)), (ad 4, .inl (0, 64, .inl he)), (ad 5, .inl (0, 60, .inl se))]) :
    ∀ (m i : Nat) (found : Int32), i + m = n → found = eO (pBst bMore he (pFl fu bu he) i) → zS (l, mX2_hottest, dd, Po, K0, h0, Xo, Gc) 0 0 8 [(0, .ref t), (1, .int found), (2, .int (nI i))] [] [(t, .inr (1, fFire ad sc)), (ad 1, .inl (0, 64, .inl fu)), (ad 2, .inl (0, 64, .inl we)), (ad 3, .inl (1, 64, .inl bu)), (ad 4, .inl (0, 64, .inl he)), (ad 5, .inl (0, 60, .inl se))] := by
  intro m
  induction m with
  | zero =>
    intro i found hi hf
    have hin : i = n := by omega
    subst hin
    refine zs_iload_n dX2_hottest_8 rfl ?_
    refine zs_aload_n dX2_hottest_9 rfl rfl ?_
    refine zs_get 0 dX2_hottest_10 zf_RX2_42 rfl (v := .int (sc 2)) rfl ?_
    refine zs_icmp_ge (tgt := 81) dX2_hottest_13 (by decide) (fun c_1 => ?_) (fun c_1 => (c_1 (by rw [hsc]; exact Int32.le_refl _) : False).elim)
    exact hk found hf
  | succ m ih =>
    intro i found hi hf
    have hil : i < n := by omega
    have hin : vp_in (nI i) 64 := vp_in_nI (by omega) (by omega)
    have hlt : ∀ k, pBst bMore he (pFl fu bu he) i = some k → k < 2147483648 := fun k hk => by have := pBst_lt hk; omega
    refine zs_iload_n dX2_hottest_8 rfl ?_
    refine zs_aload_n dX2_hottest_9 rfl rfl ?_
    refine zs_get 0 dX2_hottest_10 zf_RX2_42 rfl (v := .int (sc 2)) rfl ?_
    refine zs_icmp_ge (tgt := 81) dX2_hottest_13 (by decide) (fun c_1 => (nI_ge hil (by omega) (hsc ▸ c_1) : False).elim) (fun c_1 => ?_)
    refine zs_aload_n dX2_hottest_16 rfl rfl ?_
    refine zs_get 0 dX2_hottest_17 zf_RX2_18 rfl (v := .ref (ad 3)) rfl ?_
    refine zs_iload_n dX2_hottest_20 rfl ?_
    refine zs_zald 3 dX2_hottest_21 rfl hin ?_
    refine zs_as (y := bu i) (by rw [nI_c (by omega)]) ?_
    refine zs_if_ne (tgt := 47) dX2_hottest_22 (by decide) (fun c_2 => ?_) (fun c_2 => ?_)
    · have g1 := c_2
      have hfl0 : pFl fu bu he i = 0 := by unfold pFl; rw [if_pos g1]
      have hfl : pFl fu bu he i = 0 := hfl0
      refine zs_iconst (v := 0) dX2_hottest_47 (by decide) ?_
      refine zs_istore_n (lv' := [(3, .int 0), (0, .ref t), (1, .int found), (2, .int (nI i))]) dX2_hottest_48 (Nat.le_of_ble_eq_true rfl) rfl ?_
      refine zs_iload_n dX2_hottest_49 rfl ?_
      refine zs_if_eq (tgt := 75) dX2_hottest_50 (by decide) (fun c_3 => ?_) (fun c_3 => (c_3 rfl : False).elim)
      refine zs_iinc (v := (nI (i + 1))) (lv' := [(2, .int (nI (i + 1))), (3, .int 0), (0, .ref t), (1, .int found)]) dX2_hottest_75 rfl (nI_s1 i) (Nat.le_of_ble_eq_true rfl) rfl ?_
      refine zs_goto (tgt := 8) dX2_hottest_78 (by decide) ?_
      refine zs_lv [2, 3, 0] rfl ?_
      refine ih (i + 1) _ (by omega) ?_
      first
        | (rw [pBst_0 (by assumption)]; exact hf)
        | (rw [pBst_y (by assumption) hj (by rw [decide_eq_true_iff]; grind)]; rfl)
        | (rw [pBst_s (by assumption) hj (by rw [decide_eq_true_iff]; grind)]; exact hj2)
        | (rw [pBst_n (by assumption) (eO_nn hf (by assumption) hlt)]; rfl)
    · have g1 := c_2
      refine zs_aload_n dX2_hottest_25 rfl rfl ?_
      refine zs_get 0 dX2_hottest_26 zf_RX2_9 rfl (v := .ref (ad 1)) rfl ?_
      refine zs_iload_n dX2_hottest_29 rfl ?_
      refine zs_iald 1 dX2_hottest_30 rfl hin ?_
      refine zs_as (y := fu i) (by rw [nI_c (by omega)]) ?_
      refine zs_if_le (tgt := 47) dX2_hottest_31 (by decide) (fun c_4 => ?_) (fun c_4 => ?_)
      · have g2 := c_4
        have hfl0 : pFl fu bu he i = 0 := by unfold pFl; rw [if_neg (fun z => z g1), if_pos g2]
        have hfl : pFl fu bu he i = 0 := hfl0
        refine zs_iconst (v := 0) dX2_hottest_47 (by decide) ?_
        refine zs_istore_n (lv' := [(3, .int 0), (0, .ref t), (1, .int found), (2, .int (nI i))]) dX2_hottest_48 (Nat.le_of_ble_eq_true rfl) rfl ?_
        refine zs_iload_n dX2_hottest_49 rfl ?_
        refine zs_if_eq (tgt := 75) dX2_hottest_50 (by decide) (fun c_5 => ?_) (fun c_5 => (c_5 rfl : False).elim)
        refine zs_iinc (v := (nI (i + 1))) (lv' := [(2, .int (nI (i + 1))), (3, .int 0), (0, .ref t), (1, .int found)]) dX2_hottest_75 rfl (nI_s1 i) (Nat.le_of_ble_eq_true rfl) rfl ?_
        refine zs_goto (tgt := 8) dX2_hottest_78 (by decide) ?_
        refine zs_lv [2, 3, 0] rfl ?_
        refine ih (i + 1) _ (by omega) ?_
        first
          | (rw [pBst_0 (by assumption)]; exact hf)
          | (rw [pBst_y (by assumption) hj (by rw [decide_eq_true_iff]; grind)]; rfl)
          | (rw [pBst_s (by assumption) hj (by rw [decide_eq_true_iff]; grind)]; exact hj2)
          | (rw [pBst_n (by assumption) (eO_nn hf (by assumption) hlt)]; rfl)
      · have g2 := c_4
        refine zs_aload_n dX2_hottest_34 rfl rfl ?_
        refine zs_get 0 dX2_hottest_35 zf_RX2_22 rfl (v := .ref (ad 4)) rfl ?_
        refine zs_iload_n dX2_hottest_38 rfl ?_
        refine zs_iald 4 dX2_hottest_39 rfl hin ?_
        refine zs_as (y := he i) (by rw [nI_c (by omega)]) ?_
        refine zs_if_le (tgt := 47) dX2_hottest_40 (by decide) (fun c_6 => ?_) (fun c_6 => ?_)
        · have g3 := c_6
          have hfl0 : pFl fu bu he i = 0 := by unfold pFl; rw [if_neg (fun z => z g1), if_neg g2, if_pos g3]
          have hfl : pFl fu bu he i = 0 := hfl0
          refine zs_iconst (v := 0) dX2_hottest_47 (by decide) ?_
          refine zs_istore_n (lv' := [(3, .int 0), (0, .ref t), (1, .int found), (2, .int (nI i))]) dX2_hottest_48 (Nat.le_of_ble_eq_true rfl) rfl ?_
          refine zs_iload_n dX2_hottest_49 rfl ?_
          refine zs_if_eq (tgt := 75) dX2_hottest_50 (by decide) (fun c_7 => ?_) (fun c_7 => (c_7 rfl : False).elim)
          refine zs_iinc (v := (nI (i + 1))) (lv' := [(2, .int (nI (i + 1))), (3, .int 0), (0, .ref t), (1, .int found)]) dX2_hottest_75 rfl (nI_s1 i) (Nat.le_of_ble_eq_true rfl) rfl ?_
          refine zs_goto (tgt := 8) dX2_hottest_78 (by decide) ?_
          refine zs_lv [2, 3, 0] rfl ?_
          refine ih (i + 1) _ (by omega) ?_
          first
            | (rw [pBst_0 (by assumption)]; exact hf)
            | (rw [pBst_y (by assumption) hj (by rw [decide_eq_true_iff]; grind)]; rfl)
            | (rw [pBst_s (by assumption) hj (by rw [decide_eq_true_iff]; grind)]; exact hj2)
            | (rw [pBst_n (by assumption) (eO_nn hf (by assumption) hlt)]; rfl)
        · have g3 := c_6
          have hfl0 : pFl fu bu he i = 1 := by unfold pFl; rw [if_neg (fun z => z g1), if_neg g2, if_neg g3]
          have hfl : ¬ pFl fu bu he i = 0 := by rw [hfl0]; decide
          refine zs_iconst (v := 1) dX2_hottest_43 (by decide) ?_
          refine zs_goto (tgt := 48) dX2_hottest_44 (by decide) ?_
          refine zs_istore_n (lv' := [(3, .int 1), (0, .ref t), (1, .int found), (2, .int (nI i))]) dX2_hottest_48 (Nat.le_of_ble_eq_true rfl) rfl ?_
          refine zs_iload_n dX2_hottest_49 rfl ?_
          refine zs_if_eq (tgt := 75) dX2_hottest_50 (by decide) (fun c_8 => ((by decide : ¬ (1 : Int32) = 0) c_8 : False).elim) (fun c_8 => ?_)
          refine zs_iload_n dX2_hottest_53 rfl ?_
          refine zs_iconst (v := (-1)) dX2_hottest_54 (by decide) ?_
          refine zs_icmp_eq (tgt := 73) dX2_hottest_55 (by decide) (fun c_9 => ?_) (fun c_9 => ?_)
          · refine zs_iload_n dX2_hottest_73 rfl ?_
            refine zs_istore_n (lv' := [(1, .int (nI i)), (3, .int 1), (0, .ref t), (2, .int (nI i))]) dX2_hottest_74 (Nat.le_of_ble_eq_true rfl) rfl ?_
            refine zs_iinc (v := (nI (i + 1))) (lv' := [(2, .int (nI (i + 1))), (1, .int (nI i)), (3, .int 1), (0, .ref t)]) dX2_hottest_75 rfl (nI_s1 i) (Nat.le_of_ble_eq_true rfl) rfl ?_
            refine zs_goto (tgt := 8) dX2_hottest_78 (by decide) ?_
            refine zs_lv [3, 1, 0] rfl ?_
            refine ih (i + 1) _ (by omega) ?_
            first
              | (rw [pBst_0 (by assumption)]; exact hf)
              | (rw [pBst_y (by assumption) hj (by rw [decide_eq_true_iff]; grind)]; rfl)
              | (rw [pBst_s (by assumption) hj (by rw [decide_eq_true_iff]; grind)]; exact hj2)
              | (rw [pBst_n (by assumption) (eO_nn hf (by assumption) hlt)]; rfl)
          · obtain ⟨j, hj⟩ := eO_ne (by rw [← hf]; assumption)
            have hjl := pBst_lt hj
            have hj2 : found = nI j := by rw [hf, hj]; rfl
            have hfi : vp_in found 64 := by rw [hj2]; exact vp_in_nI (by omega) (by omega)
            refine zs_aload_n dX2_hottest_58 rfl rfl ?_
            refine zs_get 0 dX2_hottest_59 zf_RX2_22 rfl (v := .ref (ad 4)) rfl ?_
            refine zs_iload_n dX2_hottest_62 rfl ?_
            refine zs_iald 4 dX2_hottest_63 rfl hin ?_
            refine zs_as (y := he i) (by rw [nI_c (by omega)]) ?_
            refine zs_aload_n dX2_hottest_64 rfl rfl ?_
            refine zs_get 0 dX2_hottest_65 zf_RX2_22 rfl (v := .ref (ad 4)) rfl ?_
            refine zs_iload_n dX2_hottest_68 rfl ?_
            refine zs_iald 4 dX2_hottest_69 rfl hfi ?_
            refine zs_as (y := he j) (by rw [hj2, nI_c (by omega)]) ?_
            refine zs_icmp_le (tgt := 75) dX2_hottest_70 (by decide) (fun c_10 => ?_) (fun c_10 => ?_)
            · refine zs_iinc (v := (nI (i + 1))) (lv' := [(2, .int (nI (i + 1))), (3, .int 1), (0, .ref t), (1, .int found)]) dX2_hottest_75 rfl (nI_s1 i) (Nat.le_of_ble_eq_true rfl) rfl ?_
              refine zs_goto (tgt := 8) dX2_hottest_78 (by decide) ?_
              refine zs_lv [2, 3, 0] rfl ?_
              refine ih (i + 1) _ (by omega) ?_
              first
                | (rw [pBst_0 (by assumption)]; exact hf)
                | (rw [pBst_y (by assumption) hj (by rw [decide_eq_true_iff]; grind)]; rfl)
                | (rw [pBst_s (by assumption) hj (by rw [decide_eq_true_iff]; grind)]; exact hj2)
                | (rw [pBst_n (by assumption) (eO_nn hf (by assumption) hlt)]; rfl)
            · refine zs_iload_n dX2_hottest_73 rfl ?_
              refine zs_istore_n (lv' := [(1, .int (nI i)), (3, .int 1), (0, .ref t), (2, .int (nI i))]) dX2_hottest_74 (Nat.le_of_ble_eq_true rfl) rfl ?_
              refine zs_iinc (v := (nI (i + 1))) (lv' := [(2, .int (nI (i + 1))), (1, .int (nI i)), (3, .int 1), (0, .ref t)]) dX2_hottest_75 rfl (nI_s1 i) (Nat.le_of_ble_eq_true rfl) rfl ?_
              refine zs_goto (tgt := 8) dX2_hottest_78 (by decide) ?_
              refine zs_lv [3, 1, 0] rfl ?_
              refine ih (i + 1) _ (by omega) ?_
              first
                | (rw [pBst_0 (by assumption)]; exact hf)
                | (rw [pBst_y (by assumption) hj (by rw [decide_eq_true_iff]; grind)]; rfl)
                | (rw [pBst_s (by assumption) hj (by rw [decide_eq_true_iff]; grind)]; exact hj2)
                | (rw [pBst_n (by assumption) (eO_nn hf (by assumption) hlt)]; rfl)
set_option maxRecDepth 100000 in
theorem s_hottest (l : Launch) (dd : Nat) (t : Nat) (ad : Nat → Nat) (C R : Nat) (sc : Nat → Int32) (fu we bu he se : Nat → Int32) (hd : 2 ≤ dd) (hR : R ≤ 64) (hn : C * R ≤ 64) (hs0 : sc 0 = nI C) (hs1 : sc 1 = nI R) (hsc : sc 2 = nI (C * R)) : zSp l mX2_hottest dd 0 0 [.ref t] [(t, .inr (1, fFire ad sc)), (ad 1, .inl (0, 64, .inl fu)), (ad 2, .inl (0, 64, .inl we)), (ad 3, .inl (1, 64, .inl bu)), (ad 4, .inl (0, 64, .inl he)), (ad 5, .inl (0, 60, .inl se))] (fun r K' => r = some (.int (eO (pHot fu bu (pFeel C R (sc 3) fu bu he) (C * R)))) ∧ K' = kFire t ad sc fu we bu (pFeel C R (sc 3) fu bu he) se) := by
  refine zSp.of (by decide) (Nat.le_of_ble_eq_true rfl) (fun h0 => ?_)
  show zS _ 0 0 0 [(0, .ref t)] [] [(t, .inr (1, fFire ad sc)), (ad 1, .inl (0, 64, .inl fu)), (ad 2, .inl (0, 64, .inl we)), (ad 3, .inl (1, 64, .inl bu)), (ad 4, .inl (0, 64, .inl he)), (ad 5, .inl (0, 60, .inl se))]
  refine zs_aload_n dX2_hottest_0 rfl rfl ?_
  refine zs_callV (M := mX2_feelHeat) (As := []) (st := []) (Kc := [(t, .inr (1, fFire ad sc)), (ad 1, .inl (0, 64, .inl fu)), (ad 2, .inl (0, 64, .inl we)), (ad 3, .inl (1, 64, .inl bu)), (ad 4, .inl (0, 64, .inl he)), (ad 5, .inl (0, 60, .inl se))]) (Kr := []) [0, 1, 2, 3, 4, 5] [] 0 dX2_hottest_1 zl_RX2_71 kX2_feelHeat rfl rfl rfl rfl rfl (by decide) rfl rfl (show dd - 1 + 1 ≤ dd by omega) (Nat.zero_le _) (Nat.zero_le _) (Nat.le_of_ble_eq_true rfl) (s_feelHeat l (dd - 1) t ad C R sc fu we bu he se (by omega) hR hn hs0 hs1 hsc) (fun r K1 hr => ?_)
  obtain ⟨rfl, rfl⟩ := hr
  refine zs_K (K' := [(t, .inr (1, fFire ad sc)), (ad 1, .inl (0, 64, .inl fu)), (ad 2, .inl (0, 64, .inl we)), (ad 3, .inl (1, 64, .inl bu)), (ad 4, .inl (0, 64, .inl (pFeel C R (sc 3) fu bu he))), (ad 5, .inl (0, 60, .inl se))]) [0, 1, 2, 3, 4, 5] rfl (by decide) ?_
  refine zs_iconst (v := (-1)) dX2_hottest_4 (by decide) ?_
  refine zs_istore_n (lv' := [(1, .int (-1)), (0, .ref t)]) dX2_hottest_5 (Nat.le_of_ble_eq_true rfl) rfl ?_
  refine zs_iconst (v := 0) dX2_hottest_6 (by decide) ?_
  refine zs_istore_n (lv' := [(2, .int 0), (1, .int (-1)), (0, .ref t)]) dX2_hottest_7 (Nat.le_of_ble_eq_true rfl) rfl ?_
  refine zs_lv [2, 1, 0] rfl ?_
  refine lp_hot t ad (C * R) sc fu we bu (pFeel C R (sc 3) fu bu he) se hn hsc (fun found hf => ?_) (C * R) 0 _ (by omega) rfl
  refine zs_iload_n dX2_hottest_81 rfl ?_
  exact zs_iret dX2_hottest_82 rfl ⟨by rw [hf], rfl⟩
theorem dX2_aimed_0 : decode cX2_aimed 0 = .ok (.iload_n 1, 1) := by decide +kernel
theorem dX2_aimed_1 : decode cX2_aimed 1 = .ok (.bipush 100, 2) := by decide +kernel
theorem dX2_aimed_3 : decode cX2_aimed 3 = .ok (.if_icmp .lt 24, 3) := by decide +kernel
theorem dX2_aimed_6 : decode cX2_aimed 6 = .ok (.iload_n 1, 1) := by decide +kernel
theorem dX2_aimed_7 : decode cX2_aimed 7 = .ok (.bipush 100, 2) := by decide +kernel
theorem dX2_aimed_9 : decode cX2_aimed 9 = .ok (.isub, 1) := by decide +kernel
theorem dX2_aimed_10 : decode cX2_aimed 10 = .ok (.bipush 10, 2) := by decide +kernel
theorem dX2_aimed_12 : decode cX2_aimed 12 = .ok (.idiv, 1) := by decide +kernel
theorem dX2_aimed_13 : decode cX2_aimed 13 = .ok (.aload_n 0, 1) := by decide +kernel
theorem dX2_aimed_14 : decode cX2_aimed 14 = .ok (.getfield 37, 3) := by decide +kernel
theorem dX2_aimed_17 : decode cX2_aimed 17 = .ok (.imul, 1) := by decide +kernel
theorem dX2_aimed_18 : decode cX2_aimed 18 = .ok (.iload_n 1, 1) := by decide +kernel
theorem dX2_aimed_19 : decode cX2_aimed 19 = .ok (.bipush 100, 2) := by decide +kernel
theorem dX2_aimed_21 : decode cX2_aimed 21 = .ok (.isub, 1) := by decide +kernel
theorem dX2_aimed_22 : decode cX2_aimed 22 = .ok (.bipush 10, 2) := by decide +kernel
theorem dX2_aimed_24 : decode cX2_aimed 24 = .ok (.irem, 1) := by decide +kernel
theorem dX2_aimed_25 : decode cX2_aimed 25 = .ok (.iadd, 1) := by decide +kernel
theorem dX2_aimed_26 : decode cX2_aimed 26 = .ok (.ireturn, 1) := by decide +kernel
theorem dX2_aimed_27 : decode cX2_aimed 27 = .ok (.iload_n 1, 1) := by decide +kernel
theorem dX2_aimed_28 : decode cX2_aimed 28 = .ok (.iconst 3, 1) := by decide +kernel
theorem dX2_aimed_29 : decode cX2_aimed 29 = .ok (.if_icmp .ne 22, 3) := by decide +kernel
theorem dX2_aimed_32 : decode cX2_aimed 32 = .ok (.aload_n 0, 1) := by decide +kernel
theorem dX2_aimed_33 : decode cX2_aimed 33 = .ok (.invokevirtual 77, 3) := by decide +kernel
theorem dX2_aimed_36 : decode cX2_aimed 36 = .ok (.istore_n 2, 1) := by decide +kernel
theorem dX2_aimed_37 : decode cX2_aimed 37 = .ok (.iload_n 2, 1) := by decide +kernel
theorem dX2_aimed_38 : decode cX2_aimed 38 = .ok (.iconst (-1), 1) := by decide +kernel
theorem dX2_aimed_39 : decode cX2_aimed 39 = .ok (.if_icmp .ne 10, 3) := by decide +kernel
theorem dX2_aimed_42 : decode cX2_aimed 42 = .ok (.aload_n 0, 1) := by decide +kernel
theorem dX2_aimed_43 : decode cX2_aimed 43 = .ok (.invokevirtual 81, 3) := by decide +kernel
theorem dX2_aimed_46 : decode cX2_aimed 46 = .ok (.goto 4, 3) := by decide +kernel
theorem dX2_aimed_49 : decode cX2_aimed 49 = .ok (.iload_n 2, 1) := by decide +kernel
theorem dX2_aimed_50 : decode cX2_aimed 50 = .ok (.ireturn, 1) := by decide +kernel
theorem dX2_aimed_51 : decode cX2_aimed 51 = .ok (.iload_n 1, 1) := by decide +kernel
theorem dX2_aimed_52 : decode cX2_aimed 52 = .ok (.iconst 1, 1) := by decide +kernel
theorem dX2_aimed_53 : decode cX2_aimed 53 = .ok (.if_icmp .ne 8, 3) := by decide +kernel
theorem dX2_aimed_56 : decode cX2_aimed 56 = .ok (.aload_n 0, 1) := by decide +kernel
theorem dX2_aimed_57 : decode cX2_aimed 57 = .ok (.invokevirtual 81, 3) := by decide +kernel
theorem dX2_aimed_60 : decode cX2_aimed 60 = .ok (.ireturn, 1) := by decide +kernel
theorem dX2_aimed_61 : decode cX2_aimed 61 = .ok (.iload_n 1, 1) := by decide +kernel
theorem dX2_aimed_62 : decode cX2_aimed 62 = .ok (.iconst 2, 1) := by decide +kernel
theorem dX2_aimed_63 : decode cX2_aimed 63 = .ok (.if_icmp .ne 10, 3) := by decide +kernel
theorem dX2_aimed_66 : decode cX2_aimed 66 = .ok (.aload_n 0, 1) := by decide +kernel
theorem dX2_aimed_67 : decode cX2_aimed 67 = .ok (.invokevirtual 84, 3) := by decide +kernel
theorem dX2_aimed_70 : decode cX2_aimed 70 = .ok (.goto 4, 3) := by decide +kernel
theorem dX2_aimed_73 : decode cX2_aimed 73 = .ok (.iconst (-1), 1) := by decide +kernel
theorem dX2_aimed_74 : decode cX2_aimed 74 = .ok (.ireturn, 1) := by decide +kernel
set_option maxRecDepth 100000 in
theorem s_aimed (l : Launch) (dd : Nat) (t : Nat) (ad : Nat → Nat) (C R : Nat) (sc : Nat → Int32) (fu we bu he se : Nat → Int32) (a : Int32) (hd : 3 ≤ dd) (hR : R ≤ 64) (hn : C * R ≤ 64) (hs0 : sc 0 = nI C) (hs1 : sc 1 = nI R) (hsc : sc 2 = nI (C * R)) : zSp l mX2_aimed dd 0 0 [.ref t, .int a] [(t, .inr (1, fFire ad sc)), (ad 1, .inl (0, 64, .inl fu)), (ad 2, .inl (0, 64, .inl we)), (ad 3, .inl (1, 64, .inl bu)), (ad 4, .inl (0, 64, .inl he)), (ad 5, .inl (0, 60, .inl se))] (fun r K' => r = some (.int (pAim C (C * R) fu bu (pFeel C R (sc 3) fu bu he) a)) ∧ ∃ he', K' = kFire t ad sc fu we bu he' se) := by
  refine zSp.of (by decide) (Nat.le_of_ble_eq_true rfl) (fun h0 => ?_)
  show zS _ 0 0 0 [(0, .ref t), (1, .int a)] [] [(t, .inr (1, fFire ad sc)), (ad 1, .inl (0, 64, .inl fu)), (ad 2, .inl (0, 64, .inl we)), (ad 3, .inl (1, 64, .inl bu)), (ad 4, .inl (0, 64, .inl he)), (ad 5, .inl (0, 60, .inl se))]
  refine zs_iload_n dX2_aimed_0 rfl ?_
  refine zs_bipush (v := 100) dX2_aimed_1 (by decide) ?_
  refine zs_icmp_lt (tgt := 27) dX2_aimed_3 (by decide) (fun c_1 => ?_) (fun c_1 => ?_)
  · refine zs_iload_n dX2_aimed_27 rfl ?_
    refine zs_iconst (v := 3) dX2_aimed_28 (by decide) ?_
    refine zs_icmp_ne (tgt := 51) dX2_aimed_29 (by decide) (fun c_2 => ?_) (fun c_2 => ?_)
    · refine zs_iload_n dX2_aimed_51 rfl ?_
      refine zs_iconst (v := 1) dX2_aimed_52 (by decide) ?_
      refine zs_icmp_ne (tgt := 61) dX2_aimed_53 (by decide) (fun c_3 => ?_) (fun c_3 => ?_)
      · refine zs_iload_n dX2_aimed_61 rfl ?_
        refine zs_iconst (v := 2) dX2_aimed_62 (by decide) ?_
        refine zs_icmp_ne (tgt := 73) dX2_aimed_63 (by decide) (fun c_4 => ?_) (fun c_4 => ?_)
        · refine zs_iconst (v := (-1)) dX2_aimed_73 (by decide) ?_
          exact zs_iret dX2_aimed_74 rfl ⟨congrArg (fun z => some (Value.int z)) (by unfold pAim; simp only [if_pos c_1, if_neg c_2, if_neg c_3, if_neg c_4]), _, rfl⟩
        · refine zs_aload_n dX2_aimed_66 rfl rfl ?_
          refine zs_callV (M := mX2_leanest) (As := []) (st := []) (Kc := [(t, .inr (1, fFire ad sc)), (ad 1, .inl (0, 64, .inl fu)), (ad 2, .inl (0, 64, .inl we)), (ad 3, .inl (1, 64, .inl bu)), (ad 4, .inl (0, 64, .inl he)), (ad 5, .inl (0, 60, .inl se))]) (Kr := []) [0, 1, 2, 3, 4, 5] [] 0 dX2_aimed_67 zl_RX2_84 kX2_leanest rfl rfl rfl rfl rfl (by decide) rfl rfl (show dd - 1 + 1 ≤ dd by omega) (Nat.zero_le _) (Nat.zero_le _) (Nat.le_of_ble_eq_true rfl) (s_leanest l (dd - 1) t ad (C * R) sc fu we bu he se hn hsc) (fun r K1 hr => ?_)
          obtain ⟨rfl, rfl⟩ := hr
          refine zs_K (K' := [(t, .inr (1, fFire ad sc)), (ad 1, .inl (0, 64, .inl fu)), (ad 2, .inl (0, 64, .inl we)), (ad 3, .inl (1, 64, .inl bu)), (ad 4, .inl (0, 64, .inl he)), (ad 5, .inl (0, 60, .inl se))]) [0, 1, 2, 3, 4, 5] rfl (by decide) ?_
          refine zs_goto (tgt := 74) dX2_aimed_70 (by decide) ?_
          exact zs_iret dX2_aimed_74 rfl ⟨congrArg (fun z => some (Value.int z)) (by unfold pAim; simp only [if_pos c_1, if_neg c_2, if_neg c_3, if_pos c_4]), _, rfl⟩
      · refine zs_aload_n dX2_aimed_56 rfl rfl ?_
        refine zs_callV (M := mX2_fullest) (As := []) (st := []) (Kc := [(t, .inr (1, fFire ad sc)), (ad 1, .inl (0, 64, .inl fu)), (ad 2, .inl (0, 64, .inl we)), (ad 3, .inl (1, 64, .inl bu)), (ad 4, .inl (0, 64, .inl he)), (ad 5, .inl (0, 60, .inl se))]) (Kr := []) [0, 1, 2, 3, 4, 5] [] 0 dX2_aimed_57 zl_RX2_81 kX2_fullest rfl rfl rfl rfl rfl (by decide) rfl rfl (show dd - 1 + 1 ≤ dd by omega) (Nat.zero_le _) (Nat.zero_le _) (Nat.le_of_ble_eq_true rfl) (s_fullest l (dd - 1) t ad (C * R) sc fu we bu he se hn hsc) (fun r K1 hr => ?_)
        obtain ⟨rfl, rfl⟩ := hr
        refine zs_K (K' := [(t, .inr (1, fFire ad sc)), (ad 1, .inl (0, 64, .inl fu)), (ad 2, .inl (0, 64, .inl we)), (ad 3, .inl (1, 64, .inl bu)), (ad 4, .inl (0, 64, .inl he)), (ad 5, .inl (0, 60, .inl se))]) [0, 1, 2, 3, 4, 5] rfl (by decide) ?_
        exact zs_iret dX2_aimed_60 rfl ⟨congrArg (fun z => some (Value.int z)) (by unfold pAim; simp only [if_pos c_1, if_neg c_2, if_pos c_3]), _, rfl⟩
    · refine zs_aload_n dX2_aimed_32 rfl rfl ?_
      refine zs_callV (M := mX2_hottest) (As := []) (st := []) (Kc := [(t, .inr (1, fFire ad sc)), (ad 1, .inl (0, 64, .inl fu)), (ad 2, .inl (0, 64, .inl we)), (ad 3, .inl (1, 64, .inl bu)), (ad 4, .inl (0, 64, .inl he)), (ad 5, .inl (0, 60, .inl se))]) (Kr := []) [0, 1, 2, 3, 4, 5] [] 0 dX2_aimed_33 zl_RX2_77 kX2_hottest rfl rfl rfl rfl rfl (by decide) rfl rfl (show dd - 1 + 1 ≤ dd by omega) (Nat.zero_le _) (Nat.zero_le _) (Nat.le_of_ble_eq_true rfl) (s_hottest l (dd - 1) t ad C R sc fu we bu he se (by omega) hR hn hs0 hs1 hsc) (fun r K1 hr => ?_)
      obtain ⟨rfl, rfl⟩ := hr
      refine zs_K (K' := [(t, .inr (1, fFire ad sc)), (ad 1, .inl (0, 64, .inl fu)), (ad 2, .inl (0, 64, .inl we)), (ad 3, .inl (1, 64, .inl bu)), (ad 4, .inl (0, 64, .inl (pFeel C R (sc 3) fu bu he))), (ad 5, .inl (0, 60, .inl se))]) [0, 1, 2, 3, 4, 5] rfl (by decide) ?_
      refine zs_istore_n (lv' := [(2, .int (eO (pHot fu bu (pFeel C R (sc 3) fu bu he) (C * R)))), (0, .ref t), (1, .int a)]) dX2_aimed_36 (Nat.le_of_ble_eq_true rfl) rfl ?_
      refine zs_iload_n dX2_aimed_37 rfl ?_
      refine zs_iconst (v := (-1)) dX2_aimed_38 (by decide) ?_
      refine zs_icmp_ne (tgt := 49) dX2_aimed_39 (by decide) (fun c_5 => ?_) (fun c_5 => ?_)
      · refine zs_iload_n dX2_aimed_49 rfl ?_
        exact zs_iret dX2_aimed_50 rfl ⟨congrArg (fun z => some (Value.int z)) (by unfold pAim; simp only [if_pos c_1, if_pos c_2, if_neg c_5]), _, rfl⟩
      · refine zs_aload_n dX2_aimed_42 rfl rfl ?_
        refine zs_callV (M := mX2_fullest) (As := []) (st := []) (Kc := [(t, .inr (1, fFire ad sc)), (ad 1, .inl (0, 64, .inl fu)), (ad 2, .inl (0, 64, .inl we)), (ad 3, .inl (1, 64, .inl bu)), (ad 4, .inl (0, 64, .inl (pFeel C R (sc 3) fu bu he))), (ad 5, .inl (0, 60, .inl se))]) (Kr := []) [0, 1, 2, 3, 4, 5] [] 0 dX2_aimed_43 zl_RX2_81 kX2_fullest rfl rfl rfl rfl rfl (by decide) rfl rfl (show dd - 1 + 1 ≤ dd by omega) (Nat.zero_le _) (Nat.zero_le _) (Nat.le_of_ble_eq_true rfl) (s_fullest l (dd - 1) t ad (C * R) sc fu we bu (pFeel C R (sc 3) fu bu he) se hn hsc) (fun r K1 hr => ?_)
        obtain ⟨rfl, rfl⟩ := hr
        refine zs_K (K' := [(t, .inr (1, fFire ad sc)), (ad 1, .inl (0, 64, .inl fu)), (ad 2, .inl (0, 64, .inl we)), (ad 3, .inl (1, 64, .inl bu)), (ad 4, .inl (0, 64, .inl (pFeel C R (sc 3) fu bu he))), (ad 5, .inl (0, 60, .inl se))]) [0, 1, 2, 3, 4, 5] rfl (by decide) ?_
        refine zs_goto (tgt := 50) dX2_aimed_46 (by decide) ?_
        exact zs_iret dX2_aimed_50 rfl ⟨congrArg (fun z => some (Value.int z)) (by unfold pAim; simp only [if_pos c_1, if_pos c_2, if_pos c_5]), _, rfl⟩
  · refine zs_iload_n dX2_aimed_6 rfl ?_
    refine zs_bipush (v := 100) dX2_aimed_7 (by decide) ?_
    refine zs_isub dX2_aimed_9 ?_
    refine zs_bipush (v := 10) dX2_aimed_10 (by decide) ?_
    refine zs_idiv dX2_aimed_12 (by decide) ?_
    refine zs_aload_n dX2_aimed_13 rfl rfl ?_
    refine zs_get 0 dX2_aimed_14 zf_RX2_37 rfl (v := .int (sc 0)) rfl ?_
    refine zs_imul dX2_aimed_17 ?_
    refine zs_as (y := (a - 100) / 10 * nI C) (by rw [hs0]) ?_
    refine zs_iload_n dX2_aimed_18 rfl ?_
    refine zs_bipush (v := 100) dX2_aimed_19 (by decide) ?_
    refine zs_isub dX2_aimed_21 ?_
    refine zs_bipush (v := 10) dX2_aimed_22 (by decide) ?_
    refine zs_irem dX2_aimed_24 (by decide) ?_
    refine zs_iadd dX2_aimed_25 ?_
    exact zs_iret dX2_aimed_26 rfl ⟨congrArg (fun z => some (Value.int z)) (by unfold pAim; simp only [if_neg c_1]), _, rfl⟩
theorem dX2_begin_0 : decode cX2_begin 0 = .ok (.aload_n 0, 1) := by decide +kernel
theorem dX2_begin_1 : decode cX2_begin 1 = .ok (.aload_n 1, 1) := by decide +kernel
theorem dX2_begin_2 : decode cX2_begin 2 = .ok (.getfield 32, 3) := by decide +kernel
theorem dX2_begin_5 : decode cX2_begin 5 = .ok (.putfield 37, 3) := by decide +kernel
theorem dX2_begin_8 : decode cX2_begin 8 = .ok (.aload_n 0, 1) := by decide +kernel
theorem dX2_begin_9 : decode cX2_begin 9 = .ok (.aload_n 1, 1) := by decide +kernel
theorem dX2_begin_10 : decode cX2_begin 10 = .ok (.getfield 38, 3) := by decide +kernel
theorem dX2_begin_13 : decode cX2_begin 13 = .ok (.putfield 41, 3) := by decide +kernel
theorem dX2_begin_16 : decode cX2_begin 16 = .ok (.aload_n 0, 1) := by decide +kernel
theorem dX2_begin_17 : decode cX2_begin 17 = .ok (.aload_n 0, 1) := by decide +kernel
theorem dX2_begin_18 : decode cX2_begin 18 = .ok (.getfield 37, 3) := by decide +kernel
theorem dX2_begin_21 : decode cX2_begin 21 = .ok (.aload_n 0, 1) := by decide +kernel
theorem dX2_begin_22 : decode cX2_begin 22 = .ok (.getfield 41, 3) := by decide +kernel
theorem dX2_begin_25 : decode cX2_begin 25 = .ok (.imul, 1) := by decide +kernel
theorem dX2_begin_26 : decode cX2_begin 26 = .ok (.putfield 42, 3) := by decide +kernel
theorem dX2_begin_29 : decode cX2_begin 29 = .ok (.aload_n 0, 1) := by decide +kernel
theorem dX2_begin_30 : decode cX2_begin 30 = .ok (.aload_n 1, 1) := by decide +kernel
theorem dX2_begin_31 : decode cX2_begin 31 = .ok (.getfield 45, 3) := by decide +kernel
theorem dX2_begin_34 : decode cX2_begin 34 = .ok (.putfield 48, 3) := by decide +kernel
theorem dX2_begin_37 : decode cX2_begin 37 = .ok (.aload_n 0, 1) := by decide +kernel
theorem dX2_begin_38 : decode cX2_begin 38 = .ok (.iconst 0, 1) := by decide +kernel
theorem dX2_begin_39 : decode cX2_begin 39 = .ok (.putfield 49, 3) := by decide +kernel
theorem dX2_begin_42 : decode cX2_begin 42 = .ok (.iconst 0, 1) := by decide +kernel
theorem dX2_begin_43 : decode cX2_begin 43 = .ok (.istore_n 2, 1) := by decide +kernel
theorem dX2_begin_44 : decode cX2_begin 44 = .ok (.iload_n 2, 1) := by decide +kernel
theorem dX2_begin_45 : decode cX2_begin 45 = .ok (.aload_n 0, 1) := by decide +kernel
theorem dX2_begin_46 : decode cX2_begin 46 = .ok (.getfield 42, 3) := by decide +kernel
theorem dX2_begin_49 : decode cX2_begin 49 = .ok (.if_icmp .ge 59, 3) := by decide +kernel
theorem dX2_begin_52 : decode cX2_begin 52 = .ok (.aload_n 0, 1) := by decide +kernel
theorem dX2_begin_53 : decode cX2_begin 53 = .ok (.getfield 9, 3) := by decide +kernel
theorem dX2_begin_56 : decode cX2_begin 56 = .ok (.iload_n 2, 1) := by decide +kernel
theorem dX2_begin_57 : decode cX2_begin 57 = .ok (.aload_n 1, 1) := by decide +kernel
theorem dX2_begin_58 : decode cX2_begin 58 = .ok (.getfield 52, 3) := by decide +kernel
theorem dX2_begin_61 : decode cX2_begin 61 = .ok (.iload_n 2, 1) := by decide +kernel
theorem dX2_begin_62 : decode cX2_begin 62 = .ok (.iaload, 1) := by decide +kernel
theorem dX2_begin_63 : decode cX2_begin 63 = .ok (.iastore, 1) := by decide +kernel
theorem dX2_begin_64 : decode cX2_begin 64 = .ok (.aload_n 0, 1) := by decide +kernel
theorem dX2_begin_65 : decode cX2_begin 65 = .ok (.getfield 18, 3) := by decide +kernel
theorem dX2_begin_68 : decode cX2_begin 68 = .ok (.iload_n 2, 1) := by decide +kernel
theorem dX2_begin_69 : decode cX2_begin 69 = .ok (.aload_n 1, 1) := by decide +kernel
theorem dX2_begin_70 : decode cX2_begin 70 = .ok (.getfield 53, 3) := by decide +kernel
theorem dX2_begin_73 : decode cX2_begin 73 = .ok (.iload_n 2, 1) := by decide +kernel
theorem dX2_begin_74 : decode cX2_begin 74 = .ok (.baload, 1) := by decide +kernel
theorem dX2_begin_75 : decode cX2_begin 75 = .ok (.bastore, 1) := by decide +kernel
theorem dX2_begin_76 : decode cX2_begin 76 = .ok (.aload_n 0, 1) := by decide +kernel
theorem dX2_begin_77 : decode cX2_begin 77 = .ok (.getfield 15, 3) := by decide +kernel
theorem dX2_begin_80 : decode cX2_begin 80 = .ok (.iload_n 2, 1) := by decide +kernel
theorem dX2_begin_81 : decode cX2_begin 81 = .ok (.iconst 0, 1) := by decide +kernel
theorem dX2_begin_82 : decode cX2_begin 82 = .ok (.iastore, 1) := by decide +kernel
theorem dX2_begin_83 : decode cX2_begin 83 = .ok (.aload_n 0, 1) := by decide +kernel
theorem dX2_begin_84 : decode cX2_begin 84 = .ok (.getfield 18, 3) := by decide +kernel
theorem dX2_begin_87 : decode cX2_begin 87 = .ok (.iload_n 2, 1) := by decide +kernel
theorem dX2_begin_88 : decode cX2_begin 88 = .ok (.baload, 1) := by decide +kernel
theorem dX2_begin_89 : decode cX2_begin 89 = .ok (.ifCond .eq 13, 3) := by decide +kernel
theorem dX2_begin_92 : decode cX2_begin 92 = .ok (.aload_n 0, 1) := by decide +kernel
theorem dX2_begin_93 : decode cX2_begin 93 = .ok (.dup, 1) := by decide +kernel
theorem dX2_begin_94 : decode cX2_begin 94 = .ok (.getfield 49, 3) := by decide +kernel
theorem dX2_begin_97 : decode cX2_begin 97 = .ok (.iconst 1, 1) := by decide +kernel
theorem dX2_begin_98 : decode cX2_begin 98 = .ok (.iadd, 1) := by decide +kernel
theorem dX2_begin_99 : decode cX2_begin 99 = .ok (.putfield 49, 3) := by decide +kernel
theorem dX2_begin_102 : decode cX2_begin 102 = .ok (.iinc 2 1, 3) := by decide +kernel
theorem dX2_begin_105 : decode cX2_begin 105 = .ok (.goto (-61), 3) := by decide +kernel
theorem dX2_begin_108 : decode cX2_begin 108 = .ok (.aload_n 0, 1) := by decide +kernel
theorem dX2_begin_109 : decode cX2_begin 109 = .ok (.iconst 0, 1) := by decide +kernel
theorem dX2_begin_110 : decode cX2_begin 110 = .ok (.putfield 54, 3) := by decide +kernel
theorem dX2_begin_113 : decode cX2_begin 113 = .ok (.aload_n 0, 1) := by decide +kernel
theorem dX2_begin_114 : decode cX2_begin 114 = .ok (.aload_n 0, 1) := by decide +kernel
theorem dX2_begin_115 : decode cX2_begin 115 = .ok (.getfield 49, 3) := by decide +kernel
theorem dX2_begin_118 : decode cX2_begin 118 = .ok (.ifCond .ne 7, 3) := by decide +kernel
theorem dX2_begin_121 : decode cX2_begin 121 = .ok (.iconst 0, 1) := by decide +kernel
theorem dX2_begin_122 : decode cX2_begin 122 = .ok (.goto 4, 3) := by decide +kernel
theorem dX2_begin_125 : decode cX2_begin 125 = .ok (.iconst (-1), 1) := by decide +kernel
theorem dX2_begin_126 : decode cX2_begin 126 = .ok (.putfield 28, 3) := by decide +kernel
theorem dX2_begin_129 : decode cX2_begin 129 = .ok (.return_, 1) := by decide +kernel
set_option maxRecDepth 100000 in
theorem lp_begin {l : Launch} {dd : Nat} {Po : zPo} {K0 : zK} {h0 : List va_E} {Xo : zK → Prop} {Gc : zG → Prop} (t : Nat) (ad : Nat → Nat) (n : Nat) (sc : Nat → Int32) (fu we bu he se : Nat → Int32) (y : Nat) (ay : Nat → Nat) (ys nm hdd pcc pww yf yb : Nat → Int32) (hn : n ≤ 64) (hsc : ys 14 * ys 15 = nI n) (hb01 : ∀ j, j < n → yb j = 0 ∨ yb j = 1)
    (hk : zS (l, mX2_begin, dd, Po, K0, h0, Xo, Gc) 0 0 108 [(0, .ref t), (1, .ref y), (2, .int (nI n))] [] [(t, .inr (1, fFire ad (upd (upd (upd (upd (upd sc 0 (ys 14)) 1 (ys 15)) 2 (ys 14 * ys 15)) 3 (ys 13)) 9 (pCnt yb n)))), (ad 1, .inl (0, 64, .inl (pCl yf fu n))), (ad 2, .inl (0, 64, .inl (pCl (fun _ => 0) we n))), (ad 3, .inl (1, 64, .inl (pCl yb bu n))), (ad 4, .inl (0, 64, .inl he)), (ad 5, .inl (0, 60, .inl se)), (y, .inr (9, fYard ay ys)), (ay 1, .inl (0, 12, .inl nm)), (ay 2, .inl (0, 12, .inl hdd)), (ay 3, .inl (0, 12, .inl pcc)), (ay 4, .inl (0, 12, .inl pww)), (ay 5, .inl (0, 64, .inl yf)), (ay 6, .inl (1, 64, .inl yb))]) :
    ∀ (m i : Nat) , i + m = n → zS (l, mX2_begin, dd, Po, K0, h0, Xo, Gc) 0 0 44 [(0, .ref t), (1, .ref y), (2, .int (nI i))] [] [(t, .inr (1, fFire ad (upd (upd (upd (upd (upd sc 0 (ys 14)) 1 (ys 15)) 2 (ys 14 * ys 15)) 3 (ys 13)) 9 (pCnt yb i)))), (ad 1, .inl (0, 64, .inl (pCl yf fu i))), (ad 2, .inl (0, 64, .inl (pCl (fun _ => 0) we i))), (ad 3, .inl (1, 64, .inl (pCl yb bu i))), (ad 4, .inl (0, 64, .inl he)), (ad 5, .inl (0, 60, .inl se)), (y, .inr (9, fYard ay ys)), (ay 1, .inl (0, 12, .inl nm)), (ay 2, .inl (0, 12, .inl hdd)), (ay 3, .inl (0, 12, .inl pcc)), (ay 4, .inl (0, 12, .inl pww)), (ay 5, .inl (0, 64, .inl yf)), (ay 6, .inl (1, 64, .inl yb))] := by
  intro m
  induction m with
  | zero =>
    intro i hi
    have hin : i = n := by omega
    subst hin
    refine zs_iload_n dX2_begin_44 rfl ?_
    refine zs_aload_n dX2_begin_45 rfl rfl ?_
    refine zs_get 0 dX2_begin_46 zf_RX2_42 rfl (v := .int (ys 14 * ys 15)) rfl ?_
    refine zs_icmp_ge (tgt := 108) dX2_begin_49 (by decide) (fun c_1 => ?_) (fun c_1 => (c_1 (by show ys 14 * ys 15 ≤ _; rw [hsc]; exact Int32.le_refl _) : False).elim)
    exact hk
  | succ m ih =>
    intro i hi
    have hil : i < n := by omega
    refine zs_iload_n dX2_begin_44 rfl ?_
    refine zs_aload_n dX2_begin_45 rfl rfl ?_
    refine zs_get 0 dX2_begin_46 zf_RX2_42 rfl (v := .int (ys 14 * ys 15)) rfl ?_
    refine zs_icmp_ge (tgt := 108) dX2_begin_49 (by decide) (fun c_1 => (nI_ge hil (by omega) (hsc ▸ c_1) : False).elim) (fun c_1 => ?_)
    refine zs_aload_n dX2_begin_52 rfl rfl ?_
    refine zs_get 0 dX2_begin_53 zf_RX2_9 rfl (v := .ref (ad 1)) rfl ?_
    refine zs_iload_n dX2_begin_56 rfl ?_
    refine zs_aload_n dX2_begin_57 rfl rfl ?_
    refine zs_get 6 dX2_begin_58 zf_RX2_52 rfl (v := .ref (ay 5)) rfl ?_
    refine zs_iload_n dX2_begin_61 rfl ?_
    refine zs_iald 11 dX2_begin_62 rfl (vp_in_nI (by omega) (by omega)) ?_
    refine zs_as (y := yf i) (by rw [nI_c (n := i) (by omega)]) ?_
    refine zs_iast 1 dX2_begin_63 rfl (vp_in_nI (by omega) (by omega)) ?_
    rw [nI_c (n := i) (by omega)]
    rw [pCl_u (new := yf) (old := fu) (k := i) rfl]
    show zS _ _ _ _ _ _ [(t, .inr (1, fFire ad (upd (upd (upd (upd (upd sc 0 (ys 14)) 1 (ys 15)) 2 (ys 14 * ys 15)) 3 (ys 13)) 9 (pCnt yb i)))), (ad 1, .inl (0, 64, .inl (pCl yf fu (i + 1)))), (ad 2, .inl (0, 64, .inl (pCl (fun _ => 0) we i))), (ad 3, .inl (1, 64, .inl (pCl yb bu i))), (ad 4, .inl (0, 64, .inl he)), (ad 5, .inl (0, 60, .inl se)), (y, .inr (9, fYard ay ys)), (ay 1, .inl (0, 12, .inl nm)), (ay 2, .inl (0, 12, .inl hdd)), (ay 3, .inl (0, 12, .inl pcc)), (ay 4, .inl (0, 12, .inl pww)), (ay 5, .inl (0, 64, .inl yf)), (ay 6, .inl (1, 64, .inl yb))]
    refine zs_aload_n dX2_begin_64 rfl rfl ?_
    refine zs_get 0 dX2_begin_65 zf_RX2_18 rfl (v := .ref (ad 3)) rfl ?_
    refine zs_iload_n dX2_begin_68 rfl ?_
    refine zs_aload_n dX2_begin_69 rfl rfl ?_
    refine zs_get 6 dX2_begin_70 zf_RX2_53 rfl (v := .ref (ay 6)) rfl ?_
    refine zs_iload_n dX2_begin_73 rfl ?_
    refine zs_zald 12 dX2_begin_74 rfl (vp_in_nI (by omega) (by omega)) ?_
    refine zs_as (y := yb i) (by rw [nI_c (n := i) (by omega)]) ?_
    refine zs_zast 3 dX2_begin_75 rfl (vp_in_nI (by omega) (by omega)) (hb01 i hil) ?_
    rw [nI_c (n := i) (by omega)]
    rw [pCl_u (new := yb) (old := bu) (k := i) rfl]
    show zS _ _ _ _ _ _ [(t, .inr (1, fFire ad (upd (upd (upd (upd (upd sc 0 (ys 14)) 1 (ys 15)) 2 (ys 14 * ys 15)) 3 (ys 13)) 9 (pCnt yb i)))), (ad 1, .inl (0, 64, .inl (pCl yf fu (i + 1)))), (ad 2, .inl (0, 64, .inl (pCl (fun _ => 0) we i))), (ad 3, .inl (1, 64, .inl (pCl yb bu (i + 1)))), (ad 4, .inl (0, 64, .inl he)), (ad 5, .inl (0, 60, .inl se)), (y, .inr (9, fYard ay ys)), (ay 1, .inl (0, 12, .inl nm)), (ay 2, .inl (0, 12, .inl hdd)), (ay 3, .inl (0, 12, .inl pcc)), (ay 4, .inl (0, 12, .inl pww)), (ay 5, .inl (0, 64, .inl yf)), (ay 6, .inl (1, 64, .inl yb))]
    refine zs_aload_n dX2_begin_76 rfl rfl ?_
    refine zs_get 0 dX2_begin_77 zf_RX2_15 rfl (v := .ref (ad 2)) rfl ?_
    refine zs_iload_n dX2_begin_80 rfl ?_
    refine zs_iconst (v := 0) dX2_begin_81 (by decide) ?_
    refine zs_iast 2 dX2_begin_82 rfl (vp_in_nI (by omega) (by omega)) ?_
    rw [nI_c (n := i) (by omega)]
    rw [pCl_u (new := (fun _ => 0)) (old := we) (k := i) rfl]
    show zS _ _ _ _ _ _ [(t, .inr (1, fFire ad (upd (upd (upd (upd (upd sc 0 (ys 14)) 1 (ys 15)) 2 (ys 14 * ys 15)) 3 (ys 13)) 9 (pCnt yb i)))), (ad 1, .inl (0, 64, .inl (pCl yf fu (i + 1)))), (ad 2, .inl (0, 64, .inl (pCl (fun _ => 0) we (i + 1)))), (ad 3, .inl (1, 64, .inl (pCl yb bu (i + 1)))), (ad 4, .inl (0, 64, .inl he)), (ad 5, .inl (0, 60, .inl se)), (y, .inr (9, fYard ay ys)), (ay 1, .inl (0, 12, .inl nm)), (ay 2, .inl (0, 12, .inl hdd)), (ay 3, .inl (0, 12, .inl pcc)), (ay 4, .inl (0, 12, .inl pww)), (ay 5, .inl (0, 64, .inl yf)), (ay 6, .inl (1, 64, .inl yb))]
    refine zs_aload_n dX2_begin_83 rfl rfl ?_
    refine zs_get 0 dX2_begin_84 zf_RX2_18 rfl (v := .ref (ad 3)) rfl ?_
    refine zs_iload_n dX2_begin_87 rfl ?_
    refine zs_zald 3 dX2_begin_88 rfl (vp_in_nI (by omega) (by omega)) ?_
    refine zs_as (y := yb i) (by rw [nI_c (n := i) (by omega)]; exact if_pos (Nat.lt_succ_self i)) ?_
    refine zs_if_eq (tgt := 102) dX2_begin_89 (by decide) (fun c_2 => ?_) (fun c_2 => ?_)
    · refine zs_iinc (v := (nI (i + 1))) (lv' := [(2, .int (nI (i + 1))), (0, .ref t), (1, .ref y)]) dX2_begin_102 rfl (nI_s1 i) (Nat.le_of_ble_eq_true rfl) rfl ?_
      refine zs_goto (tgt := 44) dX2_begin_105 (by decide) ?_
      rw [show pCnt yb i = pCnt yb (i + 1) from (pCnt_z (by assumption)).symm]
      refine zs_lv [1, 2, 0] rfl ?_
      exact ih (i + 1) (by omega)
    · refine zs_aload_n dX2_begin_92 rfl rfl ?_
      refine zs_dup dX2_begin_93 rfl ?_
      refine zs_get 0 dX2_begin_94 zf_RX2_49 rfl (v := .int (pCnt yb i)) rfl ?_
      refine zs_iconst (v := 1) dX2_begin_97 (by decide) ?_
      refine zs_iadd dX2_begin_98 ?_
      refine zs_as (y := pCnt yb (i + 1)) (by rw [pCnt_s (by assumption)]) ?_
      refine zs_put 0 dX2_begin_99 zf_RX2_49 rfl (Nat.le_of_ble_eq_true rfl) (zPv_i _) ?_
      show zS _ _ _ _ _ _ [(t, .inr (1, fFire ad (upd (upd (upd (upd (upd sc 0 (ys 14)) 1 (ys 15)) 2 (ys 14 * ys 15)) 3 (ys 13)) 9 (pCnt yb (i + 1))))), (ad 1, .inl (0, 64, .inl (pCl yf fu (i + 1)))), (ad 2, .inl (0, 64, .inl (pCl (fun _ => 0) we (i + 1)))), (ad 3, .inl (1, 64, .inl (pCl yb bu (i + 1)))), (ad 4, .inl (0, 64, .inl he)), (ad 5, .inl (0, 60, .inl se)), (y, .inr (9, fYard ay ys)), (ay 1, .inl (0, 12, .inl nm)), (ay 2, .inl (0, 12, .inl hdd)), (ay 3, .inl (0, 12, .inl pcc)), (ay 4, .inl (0, 12, .inl pww)), (ay 5, .inl (0, 64, .inl yf)), (ay 6, .inl (1, 64, .inl yb))]
      refine zs_iinc (v := (nI (i + 1))) (lv' := [(2, .int (nI (i + 1))), (0, .ref t), (1, .ref y)]) dX2_begin_102 rfl (nI_s1 i) (Nat.le_of_ble_eq_true rfl) rfl ?_
      refine zs_goto (tgt := 44) dX2_begin_105 (by decide) ?_
      refine zs_lv [1, 2, 0] rfl ?_
      exact ih (i + 1) (by omega)
set_option maxRecDepth 100000 in
theorem s_begin (l : Launch) (dd : Nat) (t : Nat) (ad : Nat → Nat) (n : Nat) (sc : Nat → Int32) (fu we bu he se : Nat → Int32) (y : Nat) (ay : Nat → Nat) (ys nm hdd pcc pww yf yb : Nat → Int32) (hn : n ≤ 64) (hsc : ys 14 * ys 15 = nI n) (hb01 : ∀ j, j < n → yb j = 0 ∨ yb j = 1) : zSp l mX2_begin dd 0 0 [.ref t, .ref y] [(t, .inr (1, fFire ad sc)), (ad 1, .inl (0, 64, .inl fu)), (ad 2, .inl (0, 64, .inl we)), (ad 3, .inl (1, 64, .inl bu)), (ad 4, .inl (0, 64, .inl he)), (ad 5, .inl (0, 60, .inl se)), (y, .inr (9, fYard ay ys)), (ay 1, .inl (0, 12, .inl nm)), (ay 2, .inl (0, 12, .inl hdd)), (ay 3, .inl (0, 12, .inl pcc)), (ay 4, .inl (0, 12, .inl pww)), (ay 5, .inl (0, 64, .inl yf)), (ay 6, .inl (1, 64, .inl yb))] (fun r K' => r = none ∧ ∃ sc', sc' 0 = ys 14 ∧ sc' 1 = ys 15 ∧ sc' 2 = ys 14 * ys 15 ∧ sc' 3 = ys 13 ∧ sc' 9 = pCnt yb n ∧ sc' 10 = 0 ∧ (sc' 11 = if pCnt yb n = 0 then 0 else -1) ∧ K' = kFire t ad sc' (pCl yf fu n) (pCl (fun _ => 0) we n) (pCl yb bu n) he se ++ kYard y ay ys nm hdd pcc pww yf yb) := by
  refine zSp.of (by decide) (Nat.le_of_ble_eq_true rfl) (fun h0 => ?_)
  show zS _ 0 0 0 [(0, .ref t), (1, .ref y)] [] [(t, .inr (1, fFire ad sc)), (ad 1, .inl (0, 64, .inl fu)), (ad 2, .inl (0, 64, .inl we)), (ad 3, .inl (1, 64, .inl bu)), (ad 4, .inl (0, 64, .inl he)), (ad 5, .inl (0, 60, .inl se)), (y, .inr (9, fYard ay ys)), (ay 1, .inl (0, 12, .inl nm)), (ay 2, .inl (0, 12, .inl hdd)), (ay 3, .inl (0, 12, .inl pcc)), (ay 4, .inl (0, 12, .inl pww)), (ay 5, .inl (0, 64, .inl yf)), (ay 6, .inl (1, 64, .inl yb))]
  refine zs_aload_n dX2_begin_0 rfl rfl ?_
  refine zs_aload_n dX2_begin_1 rfl rfl ?_
  refine zs_get 6 dX2_begin_2 zf_RX2_32 rfl (v := .int (ys 14)) rfl ?_
  refine zs_put 0 dX2_begin_5 zf_RX2_37 rfl (Nat.le_of_ble_eq_true rfl) (zPv_i _) ?_
  show zS _ _ _ _ _ _ [(t, .inr (1, fFire ad (upd sc 0 (ys 14)))), (ad 1, .inl (0, 64, .inl fu)), (ad 2, .inl (0, 64, .inl we)), (ad 3, .inl (1, 64, .inl bu)), (ad 4, .inl (0, 64, .inl he)), (ad 5, .inl (0, 60, .inl se)), (y, .inr (9, fYard ay ys)), (ay 1, .inl (0, 12, .inl nm)), (ay 2, .inl (0, 12, .inl hdd)), (ay 3, .inl (0, 12, .inl pcc)), (ay 4, .inl (0, 12, .inl pww)), (ay 5, .inl (0, 64, .inl yf)), (ay 6, .inl (1, 64, .inl yb))]
  refine zs_aload_n dX2_begin_8 rfl rfl ?_
  refine zs_aload_n dX2_begin_9 rfl rfl ?_
  refine zs_get 6 dX2_begin_10 zf_RX2_38 rfl (v := .int (ys 15)) rfl ?_
  refine zs_put 0 dX2_begin_13 zf_RX2_41 rfl (Nat.le_of_ble_eq_true rfl) (zPv_i _) ?_
  show zS _ _ _ _ _ _ [(t, .inr (1, fFire ad (upd (upd sc 0 (ys 14)) 1 (ys 15)))), (ad 1, .inl (0, 64, .inl fu)), (ad 2, .inl (0, 64, .inl we)), (ad 3, .inl (1, 64, .inl bu)), (ad 4, .inl (0, 64, .inl he)), (ad 5, .inl (0, 60, .inl se)), (y, .inr (9, fYard ay ys)), (ay 1, .inl (0, 12, .inl nm)), (ay 2, .inl (0, 12, .inl hdd)), (ay 3, .inl (0, 12, .inl pcc)), (ay 4, .inl (0, 12, .inl pww)), (ay 5, .inl (0, 64, .inl yf)), (ay 6, .inl (1, 64, .inl yb))]
  refine zs_aload_n dX2_begin_16 rfl rfl ?_
  refine zs_aload_n dX2_begin_17 rfl rfl ?_
  refine zs_get 0 dX2_begin_18 zf_RX2_37 rfl (v := .int (ys 14)) rfl ?_
  refine zs_aload_n dX2_begin_21 rfl rfl ?_
  refine zs_get 0 dX2_begin_22 zf_RX2_41 rfl (v := .int (ys 15)) rfl ?_
  refine zs_imul dX2_begin_25 ?_
  refine zs_put 0 dX2_begin_26 zf_RX2_42 rfl (Nat.le_of_ble_eq_true rfl) (zPv_i _) ?_
  show zS _ _ _ _ _ _ [(t, .inr (1, fFire ad (upd (upd (upd sc 0 (ys 14)) 1 (ys 15)) 2 ((ys 14) * (ys 15))))), (ad 1, .inl (0, 64, .inl fu)), (ad 2, .inl (0, 64, .inl we)), (ad 3, .inl (1, 64, .inl bu)), (ad 4, .inl (0, 64, .inl he)), (ad 5, .inl (0, 60, .inl se)), (y, .inr (9, fYard ay ys)), (ay 1, .inl (0, 12, .inl nm)), (ay 2, .inl (0, 12, .inl hdd)), (ay 3, .inl (0, 12, .inl pcc)), (ay 4, .inl (0, 12, .inl pww)), (ay 5, .inl (0, 64, .inl yf)), (ay 6, .inl (1, 64, .inl yb))]
  refine zs_aload_n dX2_begin_29 rfl rfl ?_
  refine zs_aload_n dX2_begin_30 rfl rfl ?_
  refine zs_get 6 dX2_begin_31 zf_RX2_45 rfl (v := .int (ys 13)) rfl ?_
  refine zs_put 0 dX2_begin_34 zf_RX2_48 rfl (Nat.le_of_ble_eq_true rfl) (zPv_i _) ?_
  show zS _ _ _ _ _ _ [(t, .inr (1, fFire ad (upd (upd (upd (upd sc 0 (ys 14)) 1 (ys 15)) 2 ((ys 14) * (ys 15))) 3 (ys 13)))), (ad 1, .inl (0, 64, .inl fu)), (ad 2, .inl (0, 64, .inl we)), (ad 3, .inl (1, 64, .inl bu)), (ad 4, .inl (0, 64, .inl he)), (ad 5, .inl (0, 60, .inl se)), (y, .inr (9, fYard ay ys)), (ay 1, .inl (0, 12, .inl nm)), (ay 2, .inl (0, 12, .inl hdd)), (ay 3, .inl (0, 12, .inl pcc)), (ay 4, .inl (0, 12, .inl pww)), (ay 5, .inl (0, 64, .inl yf)), (ay 6, .inl (1, 64, .inl yb))]
  refine zs_aload_n dX2_begin_37 rfl rfl ?_
  refine zs_iconst (v := 0) dX2_begin_38 (by decide) ?_
  refine zs_put 0 dX2_begin_39 zf_RX2_49 rfl (Nat.le_of_ble_eq_true rfl) (zPv_i _) ?_
  show zS _ _ _ _ _ _ [(t, .inr (1, fFire ad (upd (upd (upd (upd (upd sc 0 (ys 14)) 1 (ys 15)) 2 ((ys 14) * (ys 15))) 3 (ys 13)) 9 0))), (ad 1, .inl (0, 64, .inl fu)), (ad 2, .inl (0, 64, .inl we)), (ad 3, .inl (1, 64, .inl bu)), (ad 4, .inl (0, 64, .inl he)), (ad 5, .inl (0, 60, .inl se)), (y, .inr (9, fYard ay ys)), (ay 1, .inl (0, 12, .inl nm)), (ay 2, .inl (0, 12, .inl hdd)), (ay 3, .inl (0, 12, .inl pcc)), (ay 4, .inl (0, 12, .inl pww)), (ay 5, .inl (0, 64, .inl yf)), (ay 6, .inl (1, 64, .inl yb))]
  refine zs_iconst (v := 0) dX2_begin_42 (by decide) ?_
  refine zs_istore_n (lv' := [(2, .int 0), (0, .ref t), (1, .ref y)]) dX2_begin_43 (Nat.le_of_ble_eq_true rfl) rfl ?_
  refine zs_lv [1, 2, 0] rfl ?_
  refine zs_eq (K' := [(t, .inr (1, fFire ad (upd (upd (upd (upd (upd sc 0 (ys 14)) 1 (ys 15)) 2 (ys 14 * ys 15)) 3 (ys 13)) 9 (pCnt yb 0)))), (ad 1, .inl (0, 64, .inl (pCl yf fu 0))), (ad 2, .inl (0, 64, .inl (pCl (fun _ => 0) we 0))), (ad 3, .inl (1, 64, .inl (pCl yb bu 0))), (ad 4, .inl (0, 64, .inl he)), (ad 5, .inl (0, 60, .inl se)), (y, .inr (9, fYard ay ys)), (ay 1, .inl (0, 12, .inl nm)), (ay 2, .inl (0, 12, .inl hdd)), (ay 3, .inl (0, 12, .inl pcc)), (ay 4, .inl (0, 12, .inl pww)), (ay 5, .inl (0, 64, .inl yf)), (ay 6, .inl (1, 64, .inl yb))]) (by simp only [pCl_0]; rfl) ?_
  refine lp_begin t ad n sc fu we bu he se y ay ys nm hdd pcc pww yf yb hn hsc hb01 ?_ n 0 (by omega)
  refine zs_aload_n dX2_begin_108 rfl rfl ?_
  refine zs_iconst (v := 0) dX2_begin_109 (by decide) ?_
  refine zs_put 0 dX2_begin_110 zf_RX2_54 rfl (Nat.le_of_ble_eq_true rfl) (zPv_i _) ?_
  show zS _ _ _ _ _ _ [(t, .inr (1, fFire ad (upd (upd (upd (upd (upd (upd sc 0 (ys 14)) 1 (ys 15)) 2 (ys 14 * ys 15)) 3 (ys 13)) 9 (pCnt yb n)) 10 0))), (ad 1, .inl (0, 64, .inl (pCl yf fu n))), (ad 2, .inl (0, 64, .inl (pCl (fun _ => 0) we n))), (ad 3, .inl (1, 64, .inl (pCl yb bu n))), (ad 4, .inl (0, 64, .inl he)), (ad 5, .inl (0, 60, .inl se)), (y, .inr (9, fYard ay ys)), (ay 1, .inl (0, 12, .inl nm)), (ay 2, .inl (0, 12, .inl hdd)), (ay 3, .inl (0, 12, .inl pcc)), (ay 4, .inl (0, 12, .inl pww)), (ay 5, .inl (0, 64, .inl yf)), (ay 6, .inl (1, 64, .inl yb))]
  refine zs_aload_n dX2_begin_113 rfl rfl ?_
  refine zs_aload_n dX2_begin_114 rfl rfl ?_
  refine zs_get 0 dX2_begin_115 zf_RX2_49 rfl (v := .int (pCnt yb n)) rfl ?_
  refine zs_if_ne (tgt := 125) dX2_begin_118 (by decide) (fun c_1 => ?_) (fun c_1 => ?_)
  · refine zs_iconst (v := (-1)) dX2_begin_125 (by decide) ?_
    refine zs_put 0 dX2_begin_126 zf_RX2_28 rfl (Nat.le_of_ble_eq_true rfl) (zPv_i _) ?_
    show zS _ _ _ _ _ _ [(t, .inr (1, fFire ad (upd (upd (upd (upd (upd (upd (upd sc 0 (ys 14)) 1 (ys 15)) 2 (ys 14 * ys 15)) 3 (ys 13)) 9 (pCnt yb n)) 10 0) 11 (-1)))), (ad 1, .inl (0, 64, .inl (pCl yf fu n))), (ad 2, .inl (0, 64, .inl (pCl (fun _ => 0) we n))), (ad 3, .inl (1, 64, .inl (pCl yb bu n))), (ad 4, .inl (0, 64, .inl he)), (ad 5, .inl (0, 60, .inl se)), (y, .inr (9, fYard ay ys)), (ay 1, .inl (0, 12, .inl nm)), (ay 2, .inl (0, 12, .inl hdd)), (ay 3, .inl (0, 12, .inl pcc)), (ay 4, .inl (0, 12, .inl pww)), (ay 5, .inl (0, 64, .inl yf)), (ay 6, .inl (1, 64, .inl yb))]
    exact zs_vret dX2_begin_129 rfl ⟨rfl, (upd (upd (upd (upd (upd (upd (upd sc 0 (ys 14)) 1 (ys 15)) 2 (ys 14 * ys 15)) 3 (ys 13)) 9 (pCnt yb n)) 10 0) 11 (-1)), rfl, rfl, rfl, rfl, rfl, rfl, by first | (rw [if_pos (by assumption)]; rfl) | (rw [if_neg (by assumption)]; rfl), rfl⟩
  · refine zs_iconst (v := 0) dX2_begin_121 (by decide) ?_
    refine zs_goto (tgt := 126) dX2_begin_122 (by decide) ?_
    refine zs_put 0 dX2_begin_126 zf_RX2_28 rfl (Nat.le_of_ble_eq_true rfl) (zPv_i _) ?_
    show zS _ _ _ _ _ _ [(t, .inr (1, fFire ad (upd (upd (upd (upd (upd (upd (upd sc 0 (ys 14)) 1 (ys 15)) 2 (ys 14 * ys 15)) 3 (ys 13)) 9 (pCnt yb n)) 10 0) 11 0))), (ad 1, .inl (0, 64, .inl (pCl yf fu n))), (ad 2, .inl (0, 64, .inl (pCl (fun _ => 0) we n))), (ad 3, .inl (1, 64, .inl (pCl yb bu n))), (ad 4, .inl (0, 64, .inl he)), (ad 5, .inl (0, 60, .inl se)), (y, .inr (9, fYard ay ys)), (ay 1, .inl (0, 12, .inl nm)), (ay 2, .inl (0, 12, .inl hdd)), (ay 3, .inl (0, 12, .inl pcc)), (ay 4, .inl (0, 12, .inl pww)), (ay 5, .inl (0, 64, .inl yf)), (ay 6, .inl (1, 64, .inl yb))]
    exact zs_vret dX2_begin_129 rfl ⟨rfl, (upd (upd (upd (upd (upd (upd (upd sc 0 (ys 14)) 1 (ys 15)) 2 (ys 14 * ys 15)) 3 (ys 13)) 9 (pCnt yb n)) 10 0) 11 0), rfl, rfl, rfl, rfl, rfl, rfl, by first | (rw [if_pos (by assumption)]; rfl) | (rw [if_neg (by assumption)]; rfl), rfl⟩
