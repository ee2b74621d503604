/-! ===== the reference: image, restore ===== -/
theorem dX13_image_0 : decode cX13_image 0 = .ok (.aload_n 0, 1) := by decide +kernel
theorem dX13_image_1 : decode cX13_image 1 = .ok (.iconst 0, 1) := by decide +kernel
theorem dX13_image_2 : decode cX13_image 2 = .ok (.putfield 148, 3) := by decide +kernel
theorem dX13_image_5 : decode cX13_image 5 = .ok (.aload_n 0, 1) := by decide +kernel
theorem dX13_image_6 : decode cX13_image 6 = .ok (.invokevirtual 232, 3) := by decide +kernel
theorem dX13_image_9 : decode cX13_image 9 = .ok (.iload_n 1, 1) := by decide +kernel
theorem dX13_image_10 : decode cX13_image 10 = .ok (.iconst 0, 1) := by decide +kernel
theorem dX13_image_11 : decode cX13_image 11 = .ok (.iconst 1, 1) := by decide +kernel
theorem dX13_image_12 : decode cX13_image 12 = .ok (.invokestatic 219, 3) := by decide +kernel
theorem dX13_image_15 : decode cX13_image 15 = .ok (.ifCond .ne 5, 3) := by decide +kernel
theorem dX13_image_18 : decode cX13_image 18 = .ok (.iconst 0, 1) := by decide +kernel
theorem dX13_image_19 : decode cX13_image 19 = .ok (.ireturn, 1) := by decide +kernel
theorem dX13_image_20 : decode cX13_image 20 = .ok (.iconst 0, 1) := by decide +kernel
theorem dX13_image_21 : decode cX13_image 21 = .ok (.istore_n 2, 1) := by decide +kernel
theorem dX13_image_22 : decode cX13_image 22 = .ok (.iload_n 2, 1) := by decide +kernel
theorem dX13_image_23 : decode cX13_image 23 = .ok (.sipush 800, 3) := by decide +kernel
theorem dX13_image_26 : decode cX13_image 26 = .ok (.if_icmp .ge 27, 3) := by decide +kernel
theorem dX13_image_29 : decode cX13_image 29 = .ok (.aload_n 0, 1) := by decide +kernel
theorem dX13_image_30 : decode cX13_image 30 = .ok (.getfield 22, 3) := by decide +kernel
theorem dX13_image_33 : decode cX13_image 33 = .ok (.sipush 800, 3) := by decide +kernel
theorem dX13_image_36 : decode cX13_image 36 = .ok (.iload_n 1, 1) := by decide +kernel
theorem dX13_image_37 : decode cX13_image 37 = .ok (.imul, 1) := by decide +kernel
theorem dX13_image_38 : decode cX13_image 38 = .ok (.iload_n 2, 1) := by decide +kernel
theorem dX13_image_39 : decode cX13_image 39 = .ok (.iadd, 1) := by decide +kernel
theorem dX13_image_40 : decode cX13_image 40 = .ok (.aload_n 0, 1) := by decide +kernel
theorem dX13_image_41 : decode cX13_image 41 = .ok (.getfield 13, 3) := by decide +kernel
theorem dX13_image_44 : decode cX13_image 44 = .ok (.iload_n 2, 1) := by decide +kernel
theorem dX13_image_45 : decode cX13_image 45 = .ok (.iaload, 1) := by decide +kernel
theorem dX13_image_46 : decode cX13_image 46 = .ok (.iastore, 1) := by decide +kernel
theorem dX13_image_47 : decode cX13_image 47 = .ok (.iinc 2 1, 3) := by decide +kernel
theorem dX13_image_50 : decode cX13_image 50 = .ok (.goto (-28), 3) := by decide +kernel
theorem dX13_image_53 : decode cX13_image 53 = .ok (.iconst 0, 1) := by decide +kernel
theorem dX13_image_54 : decode cX13_image 54 = .ok (.istore_n 2, 1) := by decide +kernel
theorem dX13_image_55 : decode cX13_image 55 = .ok (.iload_n 2, 1) := by decide +kernel
theorem dX13_image_56 : decode cX13_image 56 = .ok (.bipush 12, 2) := by decide +kernel
theorem dX13_image_58 : decode cX13_image 58 = .ok (.if_icmp .ge 26, 3) := by decide +kernel
theorem dX13_image_61 : decode cX13_image 61 = .ok (.aload_n 0, 1) := by decide +kernel
theorem dX13_image_62 : decode cX13_image 62 = .ok (.getfield 32, 3) := by decide +kernel
theorem dX13_image_65 : decode cX13_image 65 = .ok (.bipush 12, 2) := by decide +kernel
theorem dX13_image_67 : decode cX13_image 67 = .ok (.iload_n 1, 1) := by decide +kernel
theorem dX13_image_68 : decode cX13_image 68 = .ok (.imul, 1) := by decide +kernel
theorem dX13_image_69 : decode cX13_image 69 = .ok (.iload_n 2, 1) := by decide +kernel
theorem dX13_image_70 : decode cX13_image 70 = .ok (.iadd, 1) := by decide +kernel
theorem dX13_image_71 : decode cX13_image 71 = .ok (.aload_n 0, 1) := by decide +kernel
theorem dX13_image_72 : decode cX13_image 72 = .ok (.getfield 25, 3) := by decide +kernel
theorem dX13_image_75 : decode cX13_image 75 = .ok (.iload_n 2, 1) := by decide +kernel
theorem dX13_image_76 : decode cX13_image 76 = .ok (.laload, 1) := by decide +kernel
theorem dX13_image_77 : decode cX13_image 77 = .ok (.lastore, 1) := by decide +kernel
theorem dX13_image_78 : decode cX13_image 78 = .ok (.iinc 2 1, 3) := by decide +kernel
theorem dX13_image_81 : decode cX13_image 81 = .ok (.goto (-26), 3) := by decide +kernel
theorem dX13_image_84 : decode cX13_image 84 = .ok (.aload_n 0, 1) := by decide +kernel
theorem dX13_image_85 : decode cX13_image 85 = .ok (.getfield 35, 3) := by decide +kernel
theorem dX13_image_88 : decode cX13_image 88 = .ok (.iload_n 1, 1) := by decide +kernel
theorem dX13_image_89 : decode cX13_image 89 = .ok (.iconst 1, 1) := by decide +kernel
theorem dX13_image_90 : decode cX13_image 90 = .ok (.bastore, 1) := by decide +kernel
theorem dX13_image_91 : decode cX13_image 91 = .ok (.iconst 1, 1) := by decide +kernel
theorem dX13_image_92 : decode cX13_image 92 = .ok (.ireturn, 1) := by decide +kernel
theorem dX13_restore_0 : decode cX13_restore 0 = .ok (.aload_n 0, 1) := by decide +kernel
theorem dX13_restore_1 : decode cX13_restore 1 = .ok (.iconst 0, 1) := by decide +kernel
theorem dX13_restore_2 : decode cX13_restore 2 = .ok (.putfield 148, 3) := by decide +kernel
theorem dX13_restore_5 : decode cX13_restore 5 = .ok (.aload_n 0, 1) := by decide +kernel
theorem dX13_restore_6 : decode cX13_restore 6 = .ok (.invokevirtual 232, 3) := by decide +kernel
theorem dX13_restore_9 : decode cX13_restore 9 = .ok (.iload_n 1, 1) := by decide +kernel
theorem dX13_restore_10 : decode cX13_restore 10 = .ok (.iconst 0, 1) := by decide +kernel
theorem dX13_restore_11 : decode cX13_restore 11 = .ok (.iconst 1, 1) := by decide +kernel
theorem dX13_restore_12 : decode cX13_restore 12 = .ok (.invokestatic 219, 3) := by decide +kernel
theorem dX13_restore_15 : decode cX13_restore 15 = .ok (.ifCond .eq 12, 3) := by decide +kernel
theorem dX13_restore_18 : decode cX13_restore 18 = .ok (.aload_n 0, 1) := by decide +kernel
theorem dX13_restore_19 : decode cX13_restore 19 = .ok (.getfield 35, 3) := by decide +kernel
theorem dX13_restore_22 : decode cX13_restore 22 = .ok (.iload_n 1, 1) := by decide +kernel
theorem dX13_restore_23 : decode cX13_restore 23 = .ok (.baload, 1) := by decide +kernel
theorem dX13_restore_24 : decode cX13_restore 24 = .ok (.ifCond .ne 5, 3) := by decide +kernel
theorem dX13_restore_27 : decode cX13_restore 27 = .ok (.iconst 0, 1) := by decide +kernel
theorem dX13_restore_28 : decode cX13_restore 28 = .ok (.ireturn, 1) := by decide +kernel
theorem dX13_restore_29 : decode cX13_restore 29 = .ok (.iconst 0, 1) := by decide +kernel
theorem dX13_restore_30 : decode cX13_restore 30 = .ok (.istore_n 2, 1) := by decide +kernel
theorem dX13_restore_31 : decode cX13_restore 31 = .ok (.iload_n 2, 1) := by decide +kernel
theorem dX13_restore_32 : decode cX13_restore 32 = .ok (.sipush 800, 3) := by decide +kernel
theorem dX13_restore_35 : decode cX13_restore 35 = .ok (.if_icmp .ge 27, 3) := by decide +kernel
theorem dX13_restore_38 : decode cX13_restore 38 = .ok (.aload_n 0, 1) := by decide +kernel
theorem dX13_restore_39 : decode cX13_restore 39 = .ok (.getfield 13, 3) := by decide +kernel
theorem dX13_restore_42 : decode cX13_restore 42 = .ok (.iload_n 2, 1) := by decide +kernel
theorem dX13_restore_43 : decode cX13_restore 43 = .ok (.aload_n 0, 1) := by decide +kernel
theorem dX13_restore_44 : decode cX13_restore 44 = .ok (.getfield 22, 3) := by decide +kernel
theorem dX13_restore_47 : decode cX13_restore 47 = .ok (.sipush 800, 3) := by decide +kernel
theorem dX13_restore_50 : decode cX13_restore 50 = .ok (.iload_n 1, 1) := by decide +kernel
theorem dX13_restore_51 : decode cX13_restore 51 = .ok (.imul, 1) := by decide +kernel
theorem dX13_restore_52 : decode cX13_restore 52 = .ok (.iload_n 2, 1) := by decide +kernel
theorem dX13_restore_53 : decode cX13_restore 53 = .ok (.iadd, 1) := by decide +kernel
theorem dX13_restore_54 : decode cX13_restore 54 = .ok (.iaload, 1) := by decide +kernel
theorem dX13_restore_55 : decode cX13_restore 55 = .ok (.iastore, 1) := by decide +kernel
theorem dX13_restore_56 : decode cX13_restore 56 = .ok (.iinc 2 1, 3) := by decide +kernel
theorem dX13_restore_59 : decode cX13_restore 59 = .ok (.goto (-28), 3) := by decide +kernel
theorem dX13_restore_62 : decode cX13_restore 62 = .ok (.iconst 0, 1) := by decide +kernel
theorem dX13_restore_63 : decode cX13_restore 63 = .ok (.istore_n 2, 1) := by decide +kernel
theorem dX13_restore_64 : decode cX13_restore 64 = .ok (.iload_n 2, 1) := by decide +kernel
theorem dX13_restore_65 : decode cX13_restore 65 = .ok (.bipush 12, 2) := by decide +kernel
theorem dX13_restore_67 : decode cX13_restore 67 = .ok (.if_icmp .ge 26, 3) := by decide +kernel
theorem dX13_restore_70 : decode cX13_restore 70 = .ok (.aload_n 0, 1) := by decide +kernel
theorem dX13_restore_71 : decode cX13_restore 71 = .ok (.getfield 25, 3) := by decide +kernel
theorem dX13_restore_74 : decode cX13_restore 74 = .ok (.iload_n 2, 1) := by decide +kernel
theorem dX13_restore_75 : decode cX13_restore 75 = .ok (.aload_n 0, 1) := by decide +kernel
theorem dX13_restore_76 : decode cX13_restore 76 = .ok (.getfield 32, 3) := by decide +kernel
theorem dX13_restore_79 : decode cX13_restore 79 = .ok (.bipush 12, 2) := by decide +kernel
theorem dX13_restore_81 : decode cX13_restore 81 = .ok (.iload_n 1, 1) := by decide +kernel
theorem dX13_restore_82 : decode cX13_restore 82 = .ok (.imul, 1) := by decide +kernel
theorem dX13_restore_83 : decode cX13_restore 83 = .ok (.iload_n 2, 1) := by decide +kernel
theorem dX13_restore_84 : decode cX13_restore 84 = .ok (.iadd, 1) := by decide +kernel
theorem dX13_restore_85 : decode cX13_restore 85 = .ok (.laload, 1) := by decide +kernel
theorem dX13_restore_86 : decode cX13_restore 86 = .ok (.lastore, 1) := by decide +kernel
theorem dX13_restore_87 : decode cX13_restore 87 = .ok (.iinc 2 1, 3) := by decide +kernel
theorem dX13_restore_90 : decode cX13_restore 90 = .ok (.goto (-26), 3) := by decide +kernel
theorem dX13_restore_93 : decode cX13_restore 93 = .ok (.iconst 1, 1) := by decide +kernel
theorem dX13_restore_94 : decode cX13_restore 94 = .ok (.ireturn, 1) := by decide +kernel
/-- k words of x from place b on, old elsewhere -/
def sOw (b : Nat) (x old : Nat → Int64) (k : Nat) : Nat → Int64 := fun j => if b ≤ j ∧ j < b + k then x (j - b) else old j
theorem sOw_0 {b : Nat} {x old : Nat → Int64} : sOw b x old 0 = old := by
  funext j
  exact if_neg (by omega)
theorem sOw_s {b : Nat} {x old : Nat → Int64} {k : Nat} : vp_updL (sOw b x old k) (b + k) (x k) = sOw b x old (k + 1) := by
  funext j
  simp only [vp_updL, sOw]
  by_cases h : j = b + k
  · rw [if_pos h, if_pos (by omega), h, show b + k - b = k by omega]
  · rw [if_neg h]
    by_cases h2 : b ≤ j ∧ j < b + k
    · rw [if_pos h2, if_pos (by omega)]
    · rw [if_neg h2, if_neg (by omega)]
theorem pCw_0' (new old : Nat → Int64) : pCw new old 0 = old := by
  funext j
  unfold pCw
  exact if_neg (Nat.not_lt_zero j)
set_option maxRecDepth 100000 in
theorem lp_mim1 {l : Launch} {dd : Nat} {Po : zPo} {K0 : zK} {h0 : List va_E} {Xo : zK → Prop} {Gc : zG → Prop} (mo : Nat) (e : Nat → Nat) (g : Nat → Int32) (w : Int64) (nw kp : Nat → Int32) (nm kn : Nat → Int64) (ik : Nat → Int32) (k : Nat) (hk2 : k < 2)
    (hk : zS (l, mX13_image, dd, Po, K0, h0, Xo, Gc) 0 0 53 [(0, .ref mo), (1, .int (nI k))] [] [(mo, .inr (11, fMo e g w)), ((e 14), .inl (0, 800, .inl nw)), ((e 17), .inl (0, 1600, .inl (sOv (800 * k) nw kp 800))), ((e 18), .inl (2, 12, .inr (.inl nm))), ((e 20), .inl (2, 24, .inr (.inl kn))), ((e 21), .inl (1, 2, .inl ik))]) :
    ∀ (m i : Nat) , i + m = 800 → zS (l, mX13_image, dd, Po, K0, h0, Xo, Gc) 0 0 22 [(0, .ref mo), (1, .int (nI k)), (2, .int (nI i))] [] [(mo, .inr (11, fMo e g w)), ((e 14), .inl (0, 800, .inl nw)), ((e 17), .inl (0, 1600, .inl (sOv (800 * k) nw kp i))), ((e 18), .inl (2, 12, .inr (.inl nm))), ((e 20), .inl (2, 24, .inr (.inl kn))), ((e 21), .inl (1, 2, .inl ik))] := by
  intro m
  induction m with
  | zero =>
    intro i hi
    refine zs_iload_n dX13_image_22 rfl ?_
    refine zs_sipush (v := nI 800) dX13_image_23 (by decide) ?_
    refine zs_icmp_ge (tgt := 53) dX13_image_26 (by decide) (fun c_1 => ?_) (fun c_1 => (c_1 (by rw [show i = 800 by omega]; exact Int32.le_refl _) : False).elim)
    rw [show i = 800 by omega]
    refine zs_lv [0, 1] rfl ?_
    exact hk
  | succ m ih =>
    intro i hi
    refine zs_iload_n dX13_image_22 rfl ?_
    refine zs_sipush (v := nI 800) dX13_image_23 (by decide) ?_
    refine zs_icmp_ge (tgt := 53) dX13_image_26 (by decide) (fun c_1 => (nI_ge (show i < 800 by omega) (by omega) c_1 : False).elim) (fun c_1 => ?_)
    refine zs_aload_n dX13_image_29 rfl rfl ?_
    refine zs_get 0 dX13_image_30 zf_RX13_22 rfl (v := .ref (e 17)) rfl ?_
    refine zs_sipush (v := nI 800) dX13_image_33 (by decide) ?_
    refine zs_iload_n dX13_image_36 rfl ?_
    refine zs_imul dX13_image_37 ?_
    refine zs_as (y := nI (800 * k)) (nI_mul _ _) ?_
    refine zs_iload_n dX13_image_38 rfl ?_
    refine zs_iadd dX13_image_39 ?_
    refine zs_as (y := nI ((800 * k) + i)) (nI_add _ _) ?_
    refine zs_aload_n dX13_image_40 rfl rfl ?_
    refine zs_get 0 dX13_image_41 zf_RX13_13 rfl (v := .ref (e 14)) rfl ?_
    refine zs_iload_n dX13_image_44 rfl ?_
    refine zs_iald 1 dX13_image_45 rfl (vp_in_nI (by omega) (by omega)) ?_
    refine zs_as (y := nw i) (by rw [nI_c (n := i) (by omega)]) ?_
    refine zs_iast 2 dX13_image_46 rfl (vp_in_nI (by omega) (by omega)) ?_
    rw [nI_c (n := (800 * k) + i) (by omega)]
    rw [show (upd (sOv (800 * k) nw kp i) ((800 * k) + i) (nw i)) = (sOv (800 * k) nw kp (i + 1)) from sOv_s]
    show zS _ _ _ _ _ _ [(mo, .inr (11, fMo e g w)), ((e 14), .inl (0, 800, .inl nw)), ((e 17), .inl (0, 1600, .inl (sOv (800 * k) nw kp (i + 1)))), ((e 18), .inl (2, 12, .inr (.inl nm))), ((e 20), .inl (2, 24, .inr (.inl kn))), ((e 21), .inl (1, 2, .inl ik))]
    refine zs_iinc (v := (nI (i + 1))) (lv' := [(2, .int (nI (i + 1))), (0, .ref mo), (1, .int (nI k))]) dX13_image_47 rfl (nI_add _ 1) (Nat.le_of_ble_eq_true rfl) rfl ?_
    refine zs_goto (tgt := 22) dX13_image_50 (by decide) ?_
    refine zs_lv [1, 2, 0] rfl ?_
    exact ih (i + 1) (by omega)
set_option maxRecDepth 100000 in
theorem lp_mim2 {l : Launch} {dd : Nat} {Po : zPo} {K0 : zK} {h0 : List va_E} {Xo : zK → Prop} {Gc : zG → Prop} (mo : Nat) (e : Nat → Nat) (g : Nat → Int32) (w : Int64) (nw kp : Nat → Int32) (nm kn : Nat → Int64) (ik : Nat → Int32) (k : Nat) (hk2 : k < 2)
    (hk : zS (l, mX13_image, dd, Po, K0, h0, Xo, Gc) 0 0 84 [(0, .ref mo), (1, .int (nI k))] [] [(mo, .inr (11, fMo e g w)), ((e 14), .inl (0, 800, .inl nw)), ((e 17), .inl (0, 1600, .inl kp)), ((e 18), .inl (2, 12, .inr (.inl nm))), ((e 20), .inl (2, 24, .inr (.inl (sOw (12 * k) nm kn 12)))), ((e 21), .inl (1, 2, .inl ik))]) :
    ∀ (m i : Nat) , i + m = 12 → zS (l, mX13_image, dd, Po, K0, h0, Xo, Gc) 0 0 55 [(0, .ref mo), (1, .int (nI k)), (2, .int (nI i))] [] [(mo, .inr (11, fMo e g w)), ((e 14), .inl (0, 800, .inl nw)), ((e 17), .inl (0, 1600, .inl kp)), ((e 18), .inl (2, 12, .inr (.inl nm))), ((e 20), .inl (2, 24, .inr (.inl (sOw (12 * k) nm kn i)))), ((e 21), .inl (1, 2, .inl ik))] := by
  intro m
  induction m with
  | zero =>
    intro i hi
    refine zs_iload_n dX13_image_55 rfl ?_
    refine zs_bipush (v := nI 12) dX13_image_56 (by decide) ?_
    refine zs_icmp_ge (tgt := 84) dX13_image_58 (by decide) (fun c_1 => ?_) (fun c_1 => (c_1 (by rw [show i = 12 by omega]; exact Int32.le_refl _) : False).elim)
    rw [show i = 12 by omega]
    refine zs_lv [0, 1] rfl ?_
    exact hk
  | succ m ih =>
    intro i hi
    refine zs_iload_n dX13_image_55 rfl ?_
    refine zs_bipush (v := nI 12) dX13_image_56 (by decide) ?_
    refine zs_icmp_ge (tgt := 84) dX13_image_58 (by decide) (fun c_1 => (nI_ge (show i < 12 by omega) (by omega) c_1 : False).elim) (fun c_1 => ?_)
    refine zs_aload_n dX13_image_61 rfl rfl ?_
    refine zs_get 0 dX13_image_62 zf_RX13_32 rfl (v := .ref (e 20)) rfl ?_
    refine zs_bipush (v := nI 12) dX13_image_65 (by decide) ?_
    refine zs_iload_n dX13_image_67 rfl ?_
    refine zs_imul dX13_image_68 ?_
    refine zs_as (y := nI (12 * k)) (nI_mul _ _) ?_
    refine zs_iload_n dX13_image_69 rfl ?_
    refine zs_iadd dX13_image_70 ?_
    refine zs_as (y := nI ((12 * k) + i)) (nI_add _ _) ?_
    refine zs_aload_n dX13_image_71 rfl rfl ?_
    refine zs_get 0 dX13_image_72 zf_RX13_25 rfl (v := .ref (e 18)) rfl ?_
    refine zs_iload_n dX13_image_75 rfl ?_
    refine zs_lald 3 dX13_image_76 rfl (vp_in_nI (by omega) (by omega)) ?_
    rw [nI_c (n := i) (by omega)]
    refine zs_last 4 dX13_image_77 rfl (vp_in_nI (by omega) (by omega)) ?_
    rw [nI_c (n := (12 * k) + i) (by omega)]
    rw [show (vp_updL (sOw (12 * k) nm kn i) ((12 * k) + i) (nm i)) = (sOw (12 * k) nm kn (i + 1)) from sOw_s]
    show zS _ _ _ _ _ _ [(mo, .inr (11, fMo e g w)), ((e 14), .inl (0, 800, .inl nw)), ((e 17), .inl (0, 1600, .inl kp)), ((e 18), .inl (2, 12, .inr (.inl nm))), ((e 20), .inl (2, 24, .inr (.inl (sOw (12 * k) nm kn (i + 1))))), ((e 21), .inl (1, 2, .inl ik))]
    refine zs_iinc (v := (nI (i + 1))) (lv' := [(2, .int (nI (i + 1))), (0, .ref mo), (1, .int (nI k))]) dX13_image_78 rfl (nI_add _ 1) (Nat.le_of_ble_eq_true rfl) rfl ?_
    refine zs_goto (tgt := 55) dX13_image_81 (by decide) ?_
    refine zs_lv [1, 2, 0] rfl ?_
    exact ih (i + 1) (by omega)
set_option maxRecDepth 100000 in
theorem lp_mre1 {l : Launch} {dd : Nat} {Po : zPo} {K0 : zK} {h0 : List va_E} {Xo : zK → Prop} {Gc : zG → Prop} (mo : Nat) (e : Nat → Nat) (g : Nat → Int32) (w : Int64) (nw kp : Nat → Int32) (nm kn : Nat → Int64) (ik : Nat → Int32) (k : Nat) (hk2 : k < 2)
    (hk : zS (l, mX13_restore, dd, Po, K0, h0, Xo, Gc) 0 0 62 [(0, .ref mo), (1, .int (nI k))] [] [(mo, .inr (11, fMo e g w)), ((e 14), .inl (0, 800, .inl (pCl (fun j => kp (800 * k + j)) nw 800))), ((e 17), .inl (0, 1600, .inl kp)), ((e 18), .inl (2, 12, .inr (.inl nm))), ((e 20), .inl (2, 24, .inr (.inl kn))), ((e 21), .inl (1, 2, .inl ik))]) :
    ∀ (m i : Nat) , i + m = 800 → zS (l, mX13_restore, dd, Po, K0, h0, Xo, Gc) 0 0 31 [(0, .ref mo), (1, .int (nI k)), (2, .int (nI i))] [] [(mo, .inr (11, fMo e g w)), ((e 14), .inl (0, 800, .inl (pCl (fun j => kp (800 * k + j)) nw i))), ((e 17), .inl (0, 1600, .inl kp)), ((e 18), .inl (2, 12, .inr (.inl nm))), ((e 20), .inl (2, 24, .inr (.inl kn))), ((e 21), .inl (1, 2, .inl ik))] := by
  intro m
  induction m with
  | zero =>
    intro i hi
    refine zs_iload_n dX13_restore_31 rfl ?_
    refine zs_sipush (v := nI 800) dX13_restore_32 (by decide) ?_
    refine zs_icmp_ge (tgt := 62) dX13_restore_35 (by decide) (fun c_1 => ?_) (fun c_1 => (c_1 (by rw [show i = 800 by omega]; exact Int32.le_refl _) : False).elim)
    rw [show i = 800 by omega]
    refine zs_lv [0, 1] rfl ?_
    exact hk
  | succ m ih =>
    intro i hi
    refine zs_iload_n dX13_restore_31 rfl ?_
    refine zs_sipush (v := nI 800) dX13_restore_32 (by decide) ?_
    refine zs_icmp_ge (tgt := 62) dX13_restore_35 (by decide) (fun c_1 => (nI_ge (show i < 800 by omega) (by omega) c_1 : False).elim) (fun c_1 => ?_)
    refine zs_aload_n dX13_restore_38 rfl rfl ?_
    refine zs_get 0 dX13_restore_39 zf_RX13_13 rfl (v := .ref (e 14)) rfl ?_
    refine zs_iload_n dX13_restore_42 rfl ?_
    refine zs_aload_n dX13_restore_43 rfl rfl ?_
    refine zs_get 0 dX13_restore_44 zf_RX13_22 rfl (v := .ref (e 17)) rfl ?_
    refine zs_sipush (v := nI 800) dX13_restore_47 (by decide) ?_
    refine zs_iload_n dX13_restore_50 rfl ?_
    refine zs_imul dX13_restore_51 ?_
    refine zs_as (y := nI (800 * k)) (nI_mul _ _) ?_
    refine zs_iload_n dX13_restore_52 rfl ?_
    refine zs_iadd dX13_restore_53 ?_
    refine zs_as (y := nI ((800 * k) + i)) (nI_add _ _) ?_
    refine zs_iald 2 dX13_restore_54 rfl (vp_in_nI (by omega) (by omega)) ?_
    refine zs_as (y := kp ((800 * k) + i)) (by rw [nI_c (n := (800 * k) + i) (by omega)]) ?_
    refine zs_iast 1 dX13_restore_55 rfl (vp_in_nI (by omega) (by omega)) ?_
    rw [nI_c (n := i) (by omega)]
    rw [show (upd (pCl (fun j => kp (800 * k + j)) nw i) i (kp ((800 * k) + i))) = (pCl (fun j => kp (800 * k + j)) nw (i + 1)) from pCl_u rfl]
    show zS _ _ _ _ _ _ [(mo, .inr (11, fMo e g w)), ((e 14), .inl (0, 800, .inl (pCl (fun j => kp (800 * k + j)) nw (i + 1)))), ((e 17), .inl (0, 1600, .inl kp)), ((e 18), .inl (2, 12, .inr (.inl nm))), ((e 20), .inl (2, 24, .inr (.inl kn))), ((e 21), .inl (1, 2, .inl ik))]
    refine zs_iinc (v := (nI (i + 1))) (lv' := [(2, .int (nI (i + 1))), (0, .ref mo), (1, .int (nI k))]) dX13_restore_56 rfl (nI_add _ 1) (Nat.le_of_ble_eq_true rfl) rfl ?_
    refine zs_goto (tgt := 31) dX13_restore_59 (by decide) ?_
    refine zs_lv [1, 2, 0] rfl ?_
    exact ih (i + 1) (by omega)
set_option maxRecDepth 100000 in
theorem lp_mre2 {l : Launch} {dd : Nat} {Po : zPo} {K0 : zK} {h0 : List va_E} {Xo : zK → Prop} {Gc : zG → Prop} (mo : Nat) (e : Nat → Nat) (g : Nat → Int32) (w : Int64) (nw kp : Nat → Int32) (nm kn : Nat → Int64) (ik : Nat → Int32) (k : Nat) (hk2 : k < 2)
    (hk : zS (l, mX13_restore, dd, Po, K0, h0, Xo, Gc) 0 0 93 [(0, .ref mo), (1, .int (nI k))] [] [(mo, .inr (11, fMo e g w)), ((e 14), .inl (0, 800, .inl nw)), ((e 17), .inl (0, 1600, .inl kp)), ((e 18), .inl (2, 12, .inr (.inl (pCw (fun j => kn (12 * k + j)) nm 12)))), ((e 20), .inl (2, 24, .inr (.inl kn))), ((e 21), .inl (1, 2, .inl ik))]) :
    ∀ (m i : Nat) , i + m = 12 → zS (l, mX13_restore, dd, Po, K0, h0, Xo, Gc) 0 0 64 [(0, .ref mo), (1, .int (nI k)), (2, .int (nI i))] [] [(mo, .inr (11, fMo e g w)), ((e 14), .inl (0, 800, .inl nw)), ((e 17), .inl (0, 1600, .inl kp)), ((e 18), .inl (2, 12, .inr (.inl (pCw (fun j => kn (12 * k + j)) nm i)))), ((e 20), .inl (2, 24, .inr (.inl kn))), ((e 21), .inl (1, 2, .inl ik))] := by
  intro m
  induction m with
  | zero =>
    intro i hi
    refine zs_iload_n dX13_restore_64 rfl ?_
    refine zs_bipush (v := nI 12) dX13_restore_65 (by decide) ?_
    refine zs_icmp_ge (tgt := 93) dX13_restore_67 (by decide) (fun c_1 => ?_) (fun c_1 => (c_1 (by rw [show i = 12 by omega]; exact Int32.le_refl _) : False).elim)
    rw [show i = 12 by omega]
    refine zs_lv [0, 1] rfl ?_
    exact hk
  | succ m ih =>
    intro i hi
    refine zs_iload_n dX13_restore_64 rfl ?_
    refine zs_bipush (v := nI 12) dX13_restore_65 (by decide) ?_
    refine zs_icmp_ge (tgt := 93) dX13_restore_67 (by decide) (fun c_1 => (nI_ge (show i < 12 by omega) (by omega) c_1 : False).elim) (fun c_1 => ?_)
    refine zs_aload_n dX13_restore_70 rfl rfl ?_
    refine zs_get 0 dX13_restore_71 zf_RX13_25 rfl (v := .ref (e 18)) rfl ?_
    refine zs_iload_n dX13_restore_74 rfl ?_
    refine zs_aload_n dX13_restore_75 rfl rfl ?_
    refine zs_get 0 dX13_restore_76 zf_RX13_32 rfl (v := .ref (e 20)) rfl ?_
    refine zs_bipush (v := nI 12) dX13_restore_79 (by decide) ?_
    refine zs_iload_n dX13_restore_81 rfl ?_
    refine zs_imul dX13_restore_82 ?_
    refine zs_as (y := nI (12 * k)) (nI_mul _ _) ?_
    refine zs_iload_n dX13_restore_83 rfl ?_
    refine zs_iadd dX13_restore_84 ?_
    refine zs_as (y := nI ((12 * k) + i)) (nI_add _ _) ?_
    refine zs_lald 4 dX13_restore_85 rfl (vp_in_nI (by omega) (by omega)) ?_
    rw [nI_c (n := (12 * k) + i) (by omega)]
    refine zs_last 3 dX13_restore_86 rfl (vp_in_nI (by omega) (by omega)) ?_
    rw [nI_c (n := i) (by omega)]
    rw [show (vp_updL (pCw (fun j => kn (12 * k + j)) nm i) i (kn ((12 * k) + i))) = (pCw (fun j => kn (12 * k + j)) nm (i + 1)) from pCw_u rfl]
    show zS _ _ _ _ _ _ [(mo, .inr (11, fMo e g w)), ((e 14), .inl (0, 800, .inl nw)), ((e 17), .inl (0, 1600, .inl kp)), ((e 18), .inl (2, 12, .inr (.inl (pCw (fun j => kn (12 * k + j)) nm (i + 1))))), ((e 20), .inl (2, 24, .inr (.inl kn))), ((e 21), .inl (1, 2, .inl ik))]
    refine zs_iinc (v := (nI (i + 1))) (lv' := [(2, .int (nI (i + 1))), (0, .ref mo), (1, .int (nI k))]) dX13_restore_87 rfl (nI_add _ 1) (Nat.le_of_ble_eq_true rfl) rfl ?_
    refine zs_goto (tgt := 64) dX13_restore_90 (by decide) ?_
    refine zs_lv [1, 2, 0] rfl ?_
    exact ih (i + 1) (by omega)
set_option maxRecDepth 100000 in
theorem s_mImage (l : Launch) (dd : Nat) (mo : Nat) (e : Nat → Nat) (g : Nat → Int32) (w : Int64) (nw kp : Nat → Int32) (nm kn : Nat → Int64) (ik : Nat → Int32) (x : Int32) (hd : 3 ≤ dd) (hb : g 22 = 0 ∨ g 22 = 1) : zSp l mX13_image dd 0 0 [.ref mo, .int x] [(mo, .inr (11, fMo e g w)), ((e 14), .inl (0, 800, .inl nw)), ((e 17), .inl (0, 1600, .inl kp)), ((e 18), .inl (2, 12, .inr (.inl nm))), ((e 20), .inl (2, 24, .inr (.inl kn))), ((e 21), .inl (1, 2, .inl ik))] (fun r K' => (¬ (¬ x < nI 0 ∧ ¬ nI 1 < x) ∧ r = some (.int 0) ∧ ∃ (g' : Nat → Int32), mFr [0, 22] g g' ∧ g' 0 = nI 0 ∧ g' 22 = 1 ∧ K' = [(mo, .inr (11, fMo e g' w)), ((e 14), .inl (0, 800, .inl (mLay g nw))), ((e 17), .inl (0, 1600, .inl kp)), ((e 18), .inl (2, 12, .inr (.inl nm))), ((e 20), .inl (2, 24, .inr (.inl kn))), ((e 21), .inl (1, 2, .inl ik))]) ∨ (∃ k, k < 2 ∧ x = nI k ∧ r = some (.int 1) ∧ ∃ (g' : Nat → Int32), mFr [0, 22] g g' ∧ g' 0 = nI 0 ∧ g' 22 = 1 ∧ K' = [(mo, .inr (11, fMo e g' w)), ((e 14), .inl (0, 800, .inl (mLay g nw))), ((e 17), .inl (0, 1600, .inl (sOv (800 * k) (mLay g nw) kp 800))), ((e 18), .inl (2, 12, .inr (.inl nm))), ((e 20), .inl (2, 24, .inr (.inl (sOw (12 * k) nm kn 12)))), ((e 21), .inl (1, 2, .inl (upd ik k 1)))])) := by
  refine zSp.of (by decide) (Nat.le_of_ble_eq_true rfl) (fun h0 => ?_)
  show zS _ 0 0 0 [(0, .ref mo), (1, .int x)] [] [(mo, .inr (11, fMo e g w)), ((e 14), .inl (0, 800, .inl nw)), ((e 17), .inl (0, 1600, .inl kp)), ((e 18), .inl (2, 12, .inr (.inl nm))), ((e 20), .inl (2, 24, .inr (.inl kn))), ((e 21), .inl (1, 2, .inl ik))]
  refine zs_aload_n dX13_image_0 rfl rfl ?_
  refine zs_iconst (v := nI 0) dX13_image_1 (by decide) ?_
  refine zs_put 0 dX13_image_2 zf_RX13_148 rfl (Nat.le_of_ble_eq_true rfl) (zPv_i _) ?_
  show zS _ _ _ _ _ _ [(mo, .inr (11, fMo e (upd g 0 (nI 0)) w)), ((e 14), .inl (0, 800, .inl nw)), ((e 17), .inl (0, 1600, .inl kp)), ((e 18), .inl (2, 12, .inr (.inl nm))), ((e 20), .inl (2, 24, .inr (.inl kn))), ((e 21), .inl (1, 2, .inl ik))]
  refine zs_aload_n dX13_image_5 rfl rfl ?_
  refine zs_callV (M := mX13_lay) (As := []) (st := []) (Kc := [(mo, .inr (11, fMo e (upd g 0 (nI 0)) w)), ((e 14), .inl (0, 800, .inl nw))]) (Kr := [((e 17), .inl (0, 1600, .inl kp)), ((e 18), .inl (2, 12, .inr (.inl nm))), ((e 20), .inl (2, 24, .inr (.inl kn))), ((e 21), .inl (1, 2, .inl ik))]) [0, 1] [2, 3, 4, 5] 0 dX13_image_6 zl_RX13_232 kX13_lay rfl rfl rfl rfl rfl (by decide) rfl rfl (show dd - 1 + 1 ≤ dd by omega) (Nat.zero_le _) (Nat.zero_le _) (Nat.le_of_ble_eq_true rfl) (s_mLay l (dd - 1) mo e (upd g 0 (nI 0)) w nw (by omega) hb) (fun r K1 hr => ?_)
  obtain ⟨rfl, g2, hfr2, h22, rfl⟩ := hr
  rw [show mLay (upd g 0 (nI 0)) nw = mLay g nw from rfl]
  refine zs_K (K' := [(mo, .inr (11, fMo e g2 w)), ((e 14), .inl (0, 800, .inl (mLay g nw))), ((e 17), .inl (0, 1600, .inl kp)), ((e 18), .inl (2, 12, .inr (.inl nm))), ((e 20), .inl (2, 24, .inr (.inl kn))), ((e 21), .inl (1, 2, .inl ik))]) [4, 5, 0, 1, 2, 3] rfl (by decide) ?_
  refine zs_iload_n dX13_image_9 rfl ?_
  refine zs_iconst (v := nI 0) dX13_image_10 (by decide) ?_
  refine zs_iconst (v := nI 1) dX13_image_11 (by decide) ?_
  refine zs_callS (M := mX13_isIn) (As := [.int x, .int (nI 0), .int (nI 1)]) (st := []) (Kc := []) (Kr := [(mo, .inr (11, fMo e g2 w)), ((e 14), .inl (0, 800, .inl (mLay g nw))), ((e 17), .inl (0, 1600, .inl kp)), ((e 18), .inl (2, 12, .inr (.inl nm))), ((e 20), .inl (2, 24, .inr (.inl kn))), ((e 21), .inl (1, 2, .inl ik))]) [] [0, 1, 2, 3, 4, 5] dX13_image_12 zl_RX13_219 kX13_isIn rfl rfl rfl rfl rfl (by decide) (show dd - 1 + 1 ≤ dd by omega) (Nat.zero_le _) (Nat.zero_le _) (Nat.le_of_ble_eq_true rfl) (s_mIsIn l (dd - 1) x (nI 0) (nI 1)) (fun r K1 hr => ?_)
  obtain ⟨rfl, rfl⟩ := hr
  refine zs_K (K' := [(mo, .inr (11, fMo e g2 w)), ((e 14), .inl (0, 800, .inl (mLay g nw))), ((e 17), .inl (0, 1600, .inl kp)), ((e 18), .inl (2, 12, .inr (.inl nm))), ((e 20), .inl (2, 24, .inr (.inl kn))), ((e 21), .inl (1, 2, .inl ik))]) [0, 1, 2, 3, 4, 5] rfl (by decide) ?_
  refine zs_if_ne (tgt := 20) dX13_image_15 (by decide) (fun c_1 => ?_) (fun c_1 => ?_)
  · have hc1 := of_decide_eq_true (bI_t c_1)
    obtain ⟨k, hk0, rfl⟩ := zi_nn (x := x) hc1.1
    have hk2 : k < 2 := by have h := hc1.2; rw [nI_lt' (by omega) (by omega)] at h; omega
    refine zs_iconst (v := nI 0) dX13_image_20 (by decide) ?_
    refine zs_istore_n (lv' := [(2, .int (nI 0)), (0, .ref mo), (1, .int (nI k))]) dX13_image_21 (Nat.le_of_ble_eq_true rfl) rfl ?_
    refine zs_eq (K' := [(mo, .inr (11, fMo e g2 w)), ((e 14), .inl (0, 800, .inl (mLay g nw))), ((e 17), .inl (0, 1600, .inl (sOv (800 * k) (mLay g nw) kp 0))), ((e 18), .inl (2, 12, .inr (.inl nm))), ((e 20), .inl (2, 24, .inr (.inl kn))), ((e 21), .inl (1, 2, .inl ik))]) (by rw [sOv_0]) ?_
    refine zs_lv [1, 2, 0] rfl ?_
    refine lp_mim1 mo e g2 w (mLay g nw) kp nm kn ik k hk2 ?_ 800 0 (Nat.zero_add _)
    refine zs_iconst (v := nI 0) dX13_image_53 (by decide) ?_
    refine zs_istore_n (lv' := [(2, .int (nI 0)), (0, .ref mo), (1, .int (nI k))]) dX13_image_54 (Nat.le_of_ble_eq_true rfl) rfl ?_
    refine zs_eq (K' := [(mo, .inr (11, fMo e g2 w)), ((e 14), .inl (0, 800, .inl (mLay g nw))), ((e 17), .inl (0, 1600, .inl (sOv (800 * k) (mLay g nw) kp 800))), ((e 18), .inl (2, 12, .inr (.inl nm))), ((e 20), .inl (2, 24, .inr (.inl (sOw (12 * k) nm kn 0)))), ((e 21), .inl (1, 2, .inl ik))]) (by rw [sOw_0]) ?_
    refine zs_lv [1, 2, 0] rfl ?_
    refine lp_mim2 mo e g2 w (mLay g nw) (sOv (800 * k) (mLay g nw) kp 800) nm kn ik k hk2 ?_ 12 0 (Nat.zero_add _)
    refine zs_aload_n dX13_image_84 rfl rfl ?_
    refine zs_get 0 dX13_image_85 zf_RX13_35 rfl (v := .ref (e 21)) rfl ?_
    refine zs_iload_n dX13_image_88 rfl ?_
    refine zs_iconst (v := nI 1) dX13_image_89 (by decide) ?_
    refine zs_zast 5 dX13_image_90 rfl (vp_in_nI (by omega) (by omega)) (by first | exact Or.inl rfl | exact Or.inr rfl | assumption) ?_
    rw [nI_c (n := k) (by omega)]
    show zS _ _ _ _ _ _ [(mo, .inr (11, fMo e g2 w)), ((e 14), .inl (0, 800, .inl (mLay g nw))), ((e 17), .inl (0, 1600, .inl (sOv (800 * k) (mLay g nw) kp 800))), ((e 18), .inl (2, 12, .inr (.inl nm))), ((e 20), .inl (2, 24, .inr (.inl (sOw (12 * k) nm kn 12)))), ((e 21), .inl (1, 2, .inl (upd ik k (nI 1))))]
    refine zs_iconst (v := nI 1) dX13_image_91 (by decide) ?_
    exact zs_zret dX13_image_92 rfl (Or.inr rfl) (Or.inr ⟨k, hk2, rfl, rfl, g2, (mFr_t (mFr_u mFr_r (by decide) : mFr [0] g (upd g 0 (nI 0))) hfr2 (by decide) (by decide) : mFr [0, 22] g g2), hfr2 0 (by decide), h22, rfl⟩)
  · refine zs_iconst (v := nI 0) dX13_image_18 (by decide) ?_
    exact zs_zret dX13_image_19 rfl (Or.inl rfl) (Or.inl ⟨(fun q => absurd q (of_decide_eq_false (bI_f c_1))), rfl, g2, (mFr_t (mFr_u mFr_r (by decide) : mFr [0] g (upd g 0 (nI 0))) hfr2 (by decide) (by decide) : mFr [0, 22] g g2), hfr2 0 (by decide), h22, rfl⟩)
set_option maxRecDepth 100000 in
theorem s_mRestore (l : Launch) (dd : Nat) (mo : Nat) (e : Nat → Nat) (g : Nat → Int32) (w : Int64) (nw kp : Nat → Int32) (nm kn : Nat → Int64) (ik : Nat → Int32) (x : Int32) (hd : 3 ≤ dd) (hb : g 22 = 0 ∨ g 22 = 1) : zSp l mX13_restore dd 0 0 [.ref mo, .int x] [(mo, .inr (11, fMo e g w)), ((e 14), .inl (0, 800, .inl nw)), ((e 17), .inl (0, 1600, .inl kp)), ((e 18), .inl (2, 12, .inr (.inl nm))), ((e 20), .inl (2, 24, .inr (.inl kn))), ((e 21), .inl (1, 2, .inl ik))] (fun r K' => ((¬ (¬ x < nI 0 ∧ ¬ nI 1 < x) ∨ ∃ k, k < 2 ∧ x = nI k ∧ ik k = 0) ∧ r = some (.int 0) ∧ ∃ (g' : Nat → Int32), mFr [0, 22] g g' ∧ g' 0 = nI 0 ∧ g' 22 = 1 ∧ K' = [(mo, .inr (11, fMo e g' w)), ((e 14), .inl (0, 800, .inl (mLay g nw))), ((e 17), .inl (0, 1600, .inl kp)), ((e 18), .inl (2, 12, .inr (.inl nm))), ((e 20), .inl (2, 24, .inr (.inl kn))), ((e 21), .inl (1, 2, .inl ik))]) ∨ (∃ k, k < 2 ∧ x = nI k ∧ ¬ ik k = 0 ∧ r = some (.int 1) ∧ ∃ (g' : Nat → Int32), mFr [0, 22] g g' ∧ g' 0 = nI 0 ∧ g' 22 = 1 ∧ K' = [(mo, .inr (11, fMo e g' w)), ((e 14), .inl (0, 800, .inl (pCl (fun j => kp (800 * k + j)) (mLay g nw) 800))), ((e 17), .inl (0, 1600, .inl kp)), ((e 18), .inl (2, 12, .inr (.inl (pCw (fun j => kn (12 * k + j)) nm 12)))), ((e 20), .inl (2, 24, .inr (.inl kn))), ((e 21), .inl (1, 2, .inl ik))])) := by
  refine zSp.of (by decide) (Nat.le_of_ble_eq_true rfl) (fun h0 => ?_)
  show zS _ 0 0 0 [(0, .ref mo), (1, .int x)] [] [(mo, .inr (11, fMo e g w)), ((e 14), .inl (0, 800, .inl nw)), ((e 17), .inl (0, 1600, .inl kp)), ((e 18), .inl (2, 12, .inr (.inl nm))), ((e 20), .inl (2, 24, .inr (.inl kn))), ((e 21), .inl (1, 2, .inl ik))]
  refine zs_aload_n dX13_restore_0 rfl rfl ?_
  refine zs_iconst (v := nI 0) dX13_restore_1 (by decide) ?_
  refine zs_put 0 dX13_restore_2 zf_RX13_148 rfl (Nat.le_of_ble_eq_true rfl) (zPv_i _) ?_
  show zS _ _ _ _ _ _ [(mo, .inr (11, fMo e (upd g 0 (nI 0)) w)), ((e 14), .inl (0, 800, .inl nw)), ((e 17), .inl (0, 1600, .inl kp)), ((e 18), .inl (2, 12, .inr (.inl nm))), ((e 20), .inl (2, 24, .inr (.inl kn))), ((e 21), .inl (1, 2, .inl ik))]
  refine zs_aload_n dX13_restore_5 rfl rfl ?_
  refine zs_callV (M := mX13_lay) (As := []) (st := []) (Kc := [(mo, .inr (11, fMo e (upd g 0 (nI 0)) w)), ((e 14), .inl (0, 800, .inl nw))]) (Kr := [((e 17), .inl (0, 1600, .inl kp)), ((e 18), .inl (2, 12, .inr (.inl nm))), ((e 20), .inl (2, 24, .inr (.inl kn))), ((e 21), .inl (1, 2, .inl ik))]) [0, 1] [2, 3, 4, 5] 0 dX13_restore_6 zl_RX13_232 kX13_lay rfl rfl rfl rfl rfl (by decide) rfl rfl (show dd - 1 + 1 ≤ dd by omega) (Nat.zero_le _) (Nat.zero_le _) (Nat.le_of_ble_eq_true rfl) (s_mLay l (dd - 1) mo e (upd g 0 (nI 0)) w nw (by omega) hb) (fun r K1 hr => ?_)
  obtain ⟨rfl, g2, hfr2, h22, rfl⟩ := hr
  rw [show mLay (upd g 0 (nI 0)) nw = mLay g nw from rfl]
  refine zs_K (K' := [(mo, .inr (11, fMo e g2 w)), ((e 14), .inl (0, 800, .inl (mLay g nw))), ((e 17), .inl (0, 1600, .inl kp)), ((e 18), .inl (2, 12, .inr (.inl nm))), ((e 20), .inl (2, 24, .inr (.inl kn))), ((e 21), .inl (1, 2, .inl ik))]) [4, 5, 0, 1, 2, 3] rfl (by decide) ?_
  refine zs_iload_n dX13_restore_9 rfl ?_
  refine zs_iconst (v := nI 0) dX13_restore_10 (by decide) ?_
  refine zs_iconst (v := nI 1) dX13_restore_11 (by decide) ?_
  refine zs_callS (M := mX13_isIn) (As := [.int x, .int (nI 0), .int (nI 1)]) (st := []) (Kc := []) (Kr := [(mo, .inr (11, fMo e g2 w)), ((e 14), .inl (0, 800, .inl (mLay g nw))), ((e 17), .inl (0, 1600, .inl kp)), ((e 18), .inl (2, 12, .inr (.inl nm))), ((e 20), .inl (2, 24, .inr (.inl kn))), ((e 21), .inl (1, 2, .inl ik))]) [] [0, 1, 2, 3, 4, 5] dX13_restore_12 zl_RX13_219 kX13_isIn rfl rfl rfl rfl rfl (by decide) (show dd - 1 + 1 ≤ dd by omega) (Nat.zero_le _) (Nat.zero_le _) (Nat.le_of_ble_eq_true rfl) (s_mIsIn l (dd - 1) x (nI 0) (nI 1)) (fun r K1 hr => ?_)
  obtain ⟨rfl, rfl⟩ := hr
  refine zs_K (K' := [(mo, .inr (11, fMo e g2 w)), ((e 14), .inl (0, 800, .inl (mLay g nw))), ((e 17), .inl (0, 1600, .inl kp)), ((e 18), .inl (2, 12, .inr (.inl nm))), ((e 20), .inl (2, 24, .inr (.inl kn))), ((e 21), .inl (1, 2, .inl ik))]) [0, 1, 2, 3, 4, 5] rfl (by decide) ?_
  refine zs_if_eq (tgt := 27) dX13_restore_15 (by decide) (fun c_1 => ?_) (fun c_1 => ?_)
  · refine zs_iconst (v := nI 0) dX13_restore_27 (by decide) ?_
    exact zs_zret dX13_restore_28 rfl (Or.inl rfl) (Or.inl ⟨(Or.inl (fun q => absurd q (of_decide_eq_false (bI_f c_1)))), rfl, g2, (mFr_t (mFr_u mFr_r (by decide) : mFr [0] g (upd g 0 (nI 0))) hfr2 (by decide) (by decide) : mFr [0, 22] g g2), hfr2 0 (by decide), h22, rfl⟩)
  · have hc1 := of_decide_eq_true (bI_t c_1)
    obtain ⟨k, hk0, rfl⟩ := zi_nn (x := x) hc1.1
    have hk2 : k < 2 := by have h := hc1.2; rw [nI_lt' (by omega) (by omega)] at h; omega
    refine zs_aload_n dX13_restore_18 rfl rfl ?_
    refine zs_get 0 dX13_restore_19 zf_RX13_35 rfl (v := .ref (e 21)) rfl ?_
    refine zs_iload_n dX13_restore_22 rfl ?_
    refine zs_zald 5 dX13_restore_23 rfl (vp_in_nI (by omega) (by omega)) ?_
    refine zs_as (y := ik k) (by rw [nI_c (n := k) (by omega)]) ?_
    refine zs_if_ne (tgt := 29) dX13_restore_24 (by decide) (fun c_2 => ?_) (fun c_2 => ?_)
    · have hik : ¬ ik k = 0 := c_2
      refine zs_iconst (v := nI 0) dX13_restore_29 (by decide) ?_
      refine zs_istore_n (lv' := [(2, .int (nI 0)), (0, .ref mo), (1, .int (nI k))]) dX13_restore_30 (Nat.le_of_ble_eq_true rfl) rfl ?_
      refine zs_eq (K' := [(mo, .inr (11, fMo e g2 w)), ((e 14), .inl (0, 800, .inl (pCl (fun j => kp (800 * k + j)) (mLay g nw) 0))), ((e 17), .inl (0, 1600, .inl kp)), ((e 18), .inl (2, 12, .inr (.inl nm))), ((e 20), .inl (2, 24, .inr (.inl kn))), ((e 21), .inl (1, 2, .inl ik))]) (by rw [pCl_0]) ?_
      refine zs_lv [1, 2, 0] rfl ?_
      refine lp_mre1 mo e g2 w (mLay g nw) kp nm kn ik k hk2 ?_ 800 0 (Nat.zero_add _)
      refine zs_iconst (v := nI 0) dX13_restore_62 (by decide) ?_
      refine zs_istore_n (lv' := [(2, .int (nI 0)), (0, .ref mo), (1, .int (nI k))]) dX13_restore_63 (Nat.le_of_ble_eq_true rfl) rfl ?_
      refine zs_eq (K' := [(mo, .inr (11, fMo e g2 w)), ((e 14), .inl (0, 800, .inl (pCl (fun j => kp (800 * k + j)) (mLay g nw) 800))), ((e 17), .inl (0, 1600, .inl kp)), ((e 18), .inl (2, 12, .inr (.inl (pCw (fun j => kn (12 * k + j)) nm 0)))), ((e 20), .inl (2, 24, .inr (.inl kn))), ((e 21), .inl (1, 2, .inl ik))]) (by rw [pCw_0']) ?_
      refine zs_lv [1, 2, 0] rfl ?_
      refine lp_mre2 mo e g2 w (pCl (fun j => kp (800 * k + j)) (mLay g nw) 800) kp nm kn ik k hk2 ?_ 12 0 (Nat.zero_add _)
      refine zs_iconst (v := nI 1) dX13_restore_93 (by decide) ?_
      exact zs_zret dX13_restore_94 rfl (Or.inr rfl) (Or.inr ⟨k, hk2, rfl, hik, rfl, g2, (mFr_t (mFr_u mFr_r (by decide) : mFr [0] g (upd g 0 (nI 0))) hfr2 (by decide) (by decide) : mFr [0, 22] g g2), hfr2 0 (by decide), h22, rfl⟩)
    · refine zs_iconst (v := nI 0) dX13_restore_27 (by decide) ?_
      exact zs_zret dX13_restore_28 rfl (Or.inl rfl) (Or.inl ⟨(Or.inr ⟨k, hk2, rfl, c_2⟩), rfl, g2, (mFr_t (mFr_u mFr_r (by decide) : mFr [0] g (upd g 0 (nI 0))) hfr2 (by decide) (by decide) : mFr [0, 22] g g2), hfr2 0 (by decide), h22, rfl⟩)
