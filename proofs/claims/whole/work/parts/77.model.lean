/-! ===== the reference: the yard that stands ===== -/
/-- a yard as the reference keeps it -/
def yR (D : zYd) (f : Nat → Int32) : Prop := f 0 = nI (D.1 0) ∧ f 1 = nI (D.1 5) ∧ f 2 = nI (D.1 6) ∧ f 3 = nI (D.1 7) ∧ f 4 = nI (D.1 8) ∧ f 5 = nI (D.1 9) ∧ f 6 = nI (D.1 10) ∧ f 7 = nI (D.1 11) ∧ f 8 = nI (D.1 12) ∧ f 9 = nI (D.1 14) ∧ f 10 = nI (D.1 15) ∧ f 11 = D.2.1 ∧
  (∀ m, m < D.1 0 → f (20 + 3 * m) = nI (D.2.2.2.1 m) ∧ f (20 + 3 * m + 1) = nI (D.2.2.2.2.1 m) ∧ f (20 + 3 * m + 2) = nI (D.2.2.2.2.2.1 m)) ∧
  (∀ c, c < 64 → f (60 + c) = nI (D.2.2.2.2.2.2.1 c) ∧ f (130 + c) = nI (D.2.2.2.2.2.2.2 c))
def mStd (f : Nat → Int32) : Nat → Int32 := upd (upd (upd (upd (upd (upd (upd (upd (pCl (fun _ => nI 0) f 200) 1 (nI 30)) 2 (nI 6)) 3 (nI 8)) 4 (nI 5)) 5 (nI 9999)) 7 (nI 20)) 8 (nI 2)) 11 (-1)
theorem mStd_o {f : Nat → Int32} {j : Nat} (h1 : j ≠ 1) (h2 : j ≠ 2) (h3 : j ≠ 3) (h4 : j ≠ 4) (h5 : j ≠ 5) (h7 : j ≠ 7) (h8 : j ≠ 8) (h11 : j ≠ 11) : mStd f j = pCl (fun _ => nI 0) f 200 j := by
  unfold mStd upd
  rw [if_neg h11, if_neg h8, if_neg h7, if_neg h5, if_neg h4, if_neg h3, if_neg h2, if_neg h1]
theorem mStd_200 {f : Nat → Int32} {j : Nat} (h : 200 ≤ j) : mStd f j = f j := by
  rw [mStd_o (by omega) (by omega) (by omega) (by omega) (by omega) (by omega) (by omega) (by omega)]
  exact if_neg (by omega)
theorem yR_std {D : zYd} {f : Nat → Int32} : yR (yClr D) (mStd f) := by
  refine ⟨rfl, rfl, rfl, rfl, rfl, rfl, rfl, rfl, rfl, rfl, rfl, rfl, fun m hm => absurd (show m < 0 from hm) (Nat.not_lt_zero m), fun c hc => ⟨?_, ?_⟩⟩
  · rw [mStd_o (by omega) (by omega) (by omega) (by omega) (by omega) (by omega) (by omega) (by omega)]
    show (if 60 + c < 200 then nI 0 else _) = nI (nCl (fun _ => 0) _ 64 c)
    rw [if_pos (by omega), nCl_s hc]
  · rw [mStd_o (by omega) (by omega) (by omega) (by omega) (by omega) (by omega) (by omega) (by omega)]
    show (if 130 + c < 200 then nI 0 else _) = nI (nCl (fun _ => 0) _ 64 c)
    rw [if_pos (by omega), nCl_s hc]
theorem dX13_standard_0 : decode cX13_standard 0 = .ok (.iconst 0, 1) := by decide +kernel
theorem dX13_standard_1 : decode cX13_standard 1 = .ok (.istore_n 1, 1) := by decide +kernel
theorem dX13_standard_2 : decode cX13_standard 2 = .ok (.iload_n 1, 1) := by decide +kernel
theorem dX13_standard_3 : decode cX13_standard 3 = .ok (.sipush 200, 3) := by decide +kernel
theorem dX13_standard_6 : decode cX13_standard 6 = .ok (.if_icmp .ge 13, 3) := by decide +kernel
theorem dX13_standard_9 : decode cX13_standard 9 = .ok (.aload_n 0, 1) := by decide +kernel
theorem dX13_standard_10 : decode cX13_standard 10 = .ok (.iload_n 1, 1) := by decide +kernel
theorem dX13_standard_11 : decode cX13_standard 11 = .ok (.iconst 0, 1) := by decide +kernel
theorem dX13_standard_12 : decode cX13_standard 12 = .ok (.iastore, 1) := by decide +kernel
theorem dX13_standard_13 : decode cX13_standard 13 = .ok (.iinc 1 1, 3) := by decide +kernel
theorem dX13_standard_16 : decode cX13_standard 16 = .ok (.goto (-14), 3) := by decide +kernel
theorem dX13_standard_19 : decode cX13_standard 19 = .ok (.aload_n 0, 1) := by decide +kernel
theorem dX13_standard_20 : decode cX13_standard 20 = .ok (.iconst 1, 1) := by decide +kernel
theorem dX13_standard_21 : decode cX13_standard 21 = .ok (.bipush 30, 2) := by decide +kernel
theorem dX13_standard_23 : decode cX13_standard 23 = .ok (.iastore, 1) := by decide +kernel
theorem dX13_standard_24 : decode cX13_standard 24 = .ok (.aload_n 0, 1) := by decide +kernel
theorem dX13_standard_25 : decode cX13_standard 25 = .ok (.iconst 2, 1) := by decide +kernel
theorem dX13_standard_26 : decode cX13_standard 26 = .ok (.bipush 6, 2) := by decide +kernel
theorem dX13_standard_28 : decode cX13_standard 28 = .ok (.iastore, 1) := by decide +kernel
theorem dX13_standard_29 : decode cX13_standard 29 = .ok (.aload_n 0, 1) := by decide +kernel
theorem dX13_standard_30 : decode cX13_standard 30 = .ok (.iconst 3, 1) := by decide +kernel
theorem dX13_standard_31 : decode cX13_standard 31 = .ok (.bipush 8, 2) := by decide +kernel
theorem dX13_standard_33 : decode cX13_standard 33 = .ok (.iastore, 1) := by decide +kernel
theorem dX13_standard_34 : decode cX13_standard 34 = .ok (.aload_n 0, 1) := by decide +kernel
theorem dX13_standard_35 : decode cX13_standard 35 = .ok (.iconst 4, 1) := by decide +kernel
theorem dX13_standard_36 : decode cX13_standard 36 = .ok (.iconst 5, 1) := by decide +kernel
theorem dX13_standard_37 : decode cX13_standard 37 = .ok (.iastore, 1) := by decide +kernel
theorem dX13_standard_38 : decode cX13_standard 38 = .ok (.aload_n 0, 1) := by decide +kernel
theorem dX13_standard_39 : decode cX13_standard 39 = .ok (.iconst 5, 1) := by decide +kernel
theorem dX13_standard_40 : decode cX13_standard 40 = .ok (.sipush 9999, 3) := by decide +kernel
theorem dX13_standard_43 : decode cX13_standard 43 = .ok (.iastore, 1) := by decide +kernel
theorem dX13_standard_44 : decode cX13_standard 44 = .ok (.aload_n 0, 1) := by decide +kernel
theorem dX13_standard_45 : decode cX13_standard 45 = .ok (.bipush 7, 2) := by decide +kernel
theorem dX13_standard_47 : decode cX13_standard 47 = .ok (.bipush 20, 2) := by decide +kernel
theorem dX13_standard_49 : decode cX13_standard 49 = .ok (.iastore, 1) := by decide +kernel
theorem dX13_standard_50 : decode cX13_standard 50 = .ok (.aload_n 0, 1) := by decide +kernel
theorem dX13_standard_51 : decode cX13_standard 51 = .ok (.bipush 8, 2) := by decide +kernel
theorem dX13_standard_53 : decode cX13_standard 53 = .ok (.iconst 2, 1) := by decide +kernel
theorem dX13_standard_54 : decode cX13_standard 54 = .ok (.iastore, 1) := by decide +kernel
theorem dX13_standard_55 : decode cX13_standard 55 = .ok (.aload_n 0, 1) := by decide +kernel
theorem dX13_standard_56 : decode cX13_standard 56 = .ok (.bipush 11, 2) := by decide +kernel
theorem dX13_standard_58 : decode cX13_standard 58 = .ok (.iconst (-1), 1) := by decide +kernel
theorem dX13_standard_59 : decode cX13_standard 59 = .ok (.iastore, 1) := by decide +kernel
theorem dX13_standard_60 : decode cX13_standard 60 = .ok (.return_, 1) := by decide +kernel
set_option maxRecDepth 100000 in
theorem lp_mstd {l : Launch} {dd : Nat} {Po : zPo} {K0 : zK} {h0 : List va_E} {Xo : zK → Prop} {Gc : zG → Prop} (q N : Nat) (f : Nat → Int32) (hN : 200 ≤ N ∧ N ≤ 1000)
    (hk : zS (l, mX13_standard, dd, Po, K0, h0, Xo, Gc) 0 0 19 [(0, .ref q)] [] [(q, .inl (0, N, .inl (pCl (fun _ => nI 0) f 200)))]) :
    ∀ (m i : Nat) , i + m = 200 → zS (l, mX13_standard, dd, Po, K0, h0, Xo, Gc) 0 0 2 [(0, .ref q), (1, .int (nI i))] [] [(q, .inl (0, N, .inl (pCl (fun _ => nI 0) f i)))] := by
  intro m
  induction m with
  | zero =>
    intro i hi
    refine zs_iload_n dX13_standard_2 rfl ?_
    refine zs_sipush (v := nI 200) dX13_standard_3 (by decide) ?_
    refine zs_icmp_ge (tgt := 19) dX13_standard_6 (by decide) (fun c_1 => ?_) (fun c_1 => (c_1 (by rw [show i = 200 by omega]; exact Int32.le_refl _) : False).elim)
    rw [show i = 200 by omega]
    refine zs_lv [0] rfl ?_
    exact hk
  | succ m ih =>
    intro i hi
    refine zs_iload_n dX13_standard_2 rfl ?_
    refine zs_sipush (v := nI 200) dX13_standard_3 (by decide) ?_
    refine zs_icmp_ge (tgt := 19) dX13_standard_6 (by decide) (fun c_1 => (nI_ge (show i < 200 by omega) (by omega) c_1 : False).elim) (fun c_1 => ?_)
    refine zs_aload_n dX13_standard_9 rfl rfl ?_
    refine zs_iload_n dX13_standard_10 rfl ?_
    refine zs_iconst (v := nI 0) dX13_standard_11 (by decide) ?_
    refine zs_iast 0 dX13_standard_12 rfl (vp_in_nI (by omega) (by omega)) ?_
    rw [nI_c (n := i) (by omega)]
    rw [pCl_u (new := fun _ => nI 0) (old := f) (k := i) rfl]
    show zS _ _ _ _ _ _ [(q, .inl (0, N, .inl (pCl (fun _ => nI 0) f (i + 1))))]
    refine zs_iinc (v := (nI (i + 1))) (lv' := [(1, .int (nI (i + 1))), (0, .ref q)]) dX13_standard_13 rfl (nI_add _ 1) (Nat.le_of_ble_eq_true rfl) rfl ?_
    refine zs_goto (tgt := 2) dX13_standard_16 (by decide) ?_
    refine zs_lv [1, 0] rfl ?_
    exact ih (i + 1) (by omega)
set_option maxRecDepth 100000 in
theorem s_mStandard (l : Launch) (dd : Nat) (q N : Nat) (f : Nat → Int32) (hN : 200 ≤ N ∧ N ≤ 1000) : zSp l mX13_standard dd 0 0 [.ref q] [(q, .inl (0, N, .inl f))] (fun r K' => r = none ∧ K' = [(q, .inl (0, N, .inl (mStd f)))]) := by
  refine zSp.of (by decide) (Nat.le_of_ble_eq_true rfl) (fun h0 => ?_)
  show zS _ 0 0 0 [(0, .ref q)] [] [(q, .inl (0, N, .inl f))]
  refine zs_iconst (v := nI 0) dX13_standard_0 (by decide) ?_
  refine zs_istore_n (lv' := [(1, .int (nI 0)), (0, .ref q)]) dX13_standard_1 (Nat.le_of_ble_eq_true rfl) rfl ?_
  refine zs_lv [1, 0] rfl ?_
  refine zs_eq (K' := [(q, .inl (0, N, .inl (pCl (fun _ => nI 0) f 0)))]) (by rw [pCl_0]) ?_
  refine lp_mstd q N f hN ?_ 200 0 (by omega)
  refine zs_aload_n dX13_standard_19 rfl rfl ?_
  refine zs_iconst (v := nI 1) dX13_standard_20 (by decide) ?_
  refine zs_bipush (v := nI 30) dX13_standard_21 (by decide) ?_
  refine zs_iast 0 dX13_standard_23 rfl (vp_in_nI (by omega) (by omega)) ?_
  rw [nI_c (n := 1) (by omega)]
  show zS _ _ _ _ _ _ [(q, .inl (0, N, .inl (upd (pCl (fun _ => nI 0) f 200) 1 (nI 30))))]
  refine zs_aload_n dX13_standard_24 rfl rfl ?_
  refine zs_iconst (v := nI 2) dX13_standard_25 (by decide) ?_
  refine zs_bipush (v := nI 6) dX13_standard_26 (by decide) ?_
  refine zs_iast 0 dX13_standard_28 rfl (vp_in_nI (by omega) (by omega)) ?_
  rw [nI_c (n := 2) (by omega)]
  show zS _ _ _ _ _ _ [(q, .inl (0, N, .inl (upd (upd (pCl (fun _ => nI 0) f 200) 1 (nI 30)) 2 (nI 6))))]
  refine zs_aload_n dX13_standard_29 rfl rfl ?_
  refine zs_iconst (v := nI 3) dX13_standard_30 (by decide) ?_
  refine zs_bipush (v := nI 8) dX13_standard_31 (by decide) ?_
  refine zs_iast 0 dX13_standard_33 rfl (vp_in_nI (by omega) (by omega)) ?_
  rw [nI_c (n := 3) (by omega)]
  show zS _ _ _ _ _ _ [(q, .inl (0, N, .inl (upd (upd (upd (pCl (fun _ => nI 0) f 200) 1 (nI 30)) 2 (nI 6)) 3 (nI 8))))]
  refine zs_aload_n dX13_standard_34 rfl rfl ?_
  refine zs_iconst (v := nI 4) dX13_standard_35 (by decide) ?_
  refine zs_iconst (v := nI 5) dX13_standard_36 (by decide) ?_
  refine zs_iast 0 dX13_standard_37 rfl (vp_in_nI (by omega) (by omega)) ?_
  rw [nI_c (n := 4) (by omega)]
  show zS _ _ _ _ _ _ [(q, .inl (0, N, .inl (upd (upd (upd (upd (pCl (fun _ => nI 0) f 200) 1 (nI 30)) 2 (nI 6)) 3 (nI 8)) 4 (nI 5))))]
  refine zs_aload_n dX13_standard_38 rfl rfl ?_
  refine zs_iconst (v := nI 5) dX13_standard_39 (by decide) ?_
  refine zs_sipush (v := nI 9999) dX13_standard_40 (by decide) ?_
  refine zs_iast 0 dX13_standard_43 rfl (vp_in_nI (by omega) (by omega)) ?_
  rw [nI_c (n := 5) (by omega)]
  show zS _ _ _ _ _ _ [(q, .inl (0, N, .inl (upd (upd (upd (upd (upd (pCl (fun _ => nI 0) f 200) 1 (nI 30)) 2 (nI 6)) 3 (nI 8)) 4 (nI 5)) 5 (nI 9999))))]
  refine zs_aload_n dX13_standard_44 rfl rfl ?_
  refine zs_bipush (v := nI 7) dX13_standard_45 (by decide) ?_
  refine zs_bipush (v := nI 20) dX13_standard_47 (by decide) ?_
  refine zs_iast 0 dX13_standard_49 rfl (vp_in_nI (by omega) (by omega)) ?_
  rw [nI_c (n := 7) (by omega)]
  show zS _ _ _ _ _ _ [(q, .inl (0, N, .inl (upd (upd (upd (upd (upd (upd (pCl (fun _ => nI 0) f 200) 1 (nI 30)) 2 (nI 6)) 3 (nI 8)) 4 (nI 5)) 5 (nI 9999)) 7 (nI 20))))]
  refine zs_aload_n dX13_standard_50 rfl rfl ?_
  refine zs_bipush (v := nI 8) dX13_standard_51 (by decide) ?_
  refine zs_iconst (v := nI 2) dX13_standard_53 (by decide) ?_
  refine zs_iast 0 dX13_standard_54 rfl (vp_in_nI (by omega) (by omega)) ?_
  rw [nI_c (n := 8) (by omega)]
  show zS _ _ _ _ _ _ [(q, .inl (0, N, .inl (upd (upd (upd (upd (upd (upd (upd (pCl (fun _ => nI 0) f 200) 1 (nI 30)) 2 (nI 6)) 3 (nI 8)) 4 (nI 5)) 5 (nI 9999)) 7 (nI 20)) 8 (nI 2))))]
  refine zs_aload_n dX13_standard_55 rfl rfl ?_
  refine zs_bipush (v := nI 11) dX13_standard_56 (by decide) ?_
  refine zs_iconst (v := (-1)) dX13_standard_58 (by decide) ?_
  refine zs_iast 0 dX13_standard_59 rfl (vp_in_nI (by omega) (by omega)) ?_
  rw [nI_c (n := 11) (by omega)]
  show zS _ _ _ _ _ _ [(q, .inl (0, N, .inl (upd (upd (upd (upd (upd (upd (upd (upd (pCl (fun _ => nI 0) f 200) 1 (nI 30)) 2 (nI 6)) 3 (nI 8)) 4 (nI 5)) 5 (nI 9999)) 7 (nI 20)) 8 (nI 2)) 11 (-1))))]
  exact zs_vret dX13_standard_60 rfl ⟨rfl, rfl⟩
theorem dX13_lay_0 : decode cX13_lay 0 = .ok (.aload_n 0, 1) := by decide +kernel
theorem dX13_lay_1 : decode cX13_lay 1 = .ok (.getfield 239, 3) := by decide +kernel
theorem dX13_lay_4 : decode cX13_lay 4 = .ok (.ifCond .eq 4, 3) := by decide +kernel
theorem dX13_lay_7 : decode cX13_lay 7 = .ok (.return_, 1) := by decide +kernel
theorem dX13_lay_8 : decode cX13_lay 8 = .ok (.aload_n 0, 1) := by decide +kernel
theorem dX13_lay_9 : decode cX13_lay 9 = .ok (.iconst 1, 1) := by decide +kernel
theorem dX13_lay_10 : decode cX13_lay 10 = .ok (.putfield 239, 3) := by decide +kernel
theorem dX13_lay_13 : decode cX13_lay 13 = .ok (.aload_n 0, 1) := by decide +kernel
theorem dX13_lay_14 : decode cX13_lay 14 = .ok (.getfield 13, 3) := by decide +kernel
theorem dX13_lay_17 : decode cX13_lay 17 = .ok (.invokestatic 243, 3) := by decide +kernel
theorem dX13_lay_20 : decode cX13_lay 20 = .ok (.return_, 1) := by decide +kernel
/-- what stands once it is begun -/
def mLay (g : Nat → Int32) (nw : Nat → Int32) : Nat → Int32 := if g 22 = 0 then mStd nw else nw
set_option maxRecDepth 100000 in
theorem s_mLay (l : Launch) (dd : Nat) (mo : Nat) (e : Nat → Nat) (g : Nat → Int32) (w : Int64) (nw : Nat → Int32) (hd : 1 ≤ dd) (hb : g 22 = 0 ∨ g 22 = 1) : zSp l mX13_lay dd 0 0 [.ref mo] [(mo, .inr (11, fMo e g w)), ((e 14), .inl (0, 800, .inl nw))] (fun r K' => r = none ∧ ∃ g', mFr [22] g g' ∧ g' 22 = 1 ∧ K' = [(mo, .inr (11, fMo e g' w))] ++ [((e 14), .inl (0, 800, .inl (mLay g nw)))]) := by
  refine zSp.of (by decide) (Nat.le_of_ble_eq_true rfl) (fun h0 => ?_)
  show zS _ 0 0 0 [(0, .ref mo)] [] [(mo, .inr (11, fMo e g w)), ((e 14), .inl (0, 800, .inl nw))]
  refine zs_aload_n dX13_lay_0 rfl rfl ?_
  refine zs_get 0 dX13_lay_1 zf_RX13_239 rfl (v := .int (g 22)) rfl ?_
  refine zs_if_eq (tgt := 8) dX13_lay_4 (by decide) (fun c_1 => ?_) (fun c_1 => ?_)
  · refine zs_aload_n dX13_lay_8 rfl rfl ?_
    refine zs_iconst (v := nI 1) dX13_lay_9 (by decide) ?_
    refine zs_put 0 dX13_lay_10 zf_RX13_239 rfl (Nat.le_of_ble_eq_true rfl) (zPv_z (by first | exact Or.inl rfl | exact Or.inr rfl | assumption)) ?_
    show zS _ _ _ _ _ _ [(mo, .inr (11, fMo e (upd g 22 (nI 1)) w)), ((e 14), .inl (0, 800, .inl nw))]
    refine zs_aload_n dX13_lay_13 rfl rfl ?_
    refine zs_get 0 dX13_lay_14 zf_RX13_13 rfl (v := .ref (e 14)) rfl ?_
    refine zs_callS (M := mX13_standard) (As := [.ref (e 14)]) (st := []) (Kc := [((e 14), .inl (0, 800, .inl nw))]) (Kr := [(mo, .inr (11, fMo e (upd g 22 (nI 1)) w))]) [1] [0] dX13_lay_17 zl_RX13_243 kX13_standard rfl rfl rfl rfl rfl (by decide) (show dd - 1 + 1 ≤ dd by omega) (Nat.zero_le _) (Nat.zero_le _) (Nat.le_of_ble_eq_true rfl) (s_mStandard l (dd - 1) (e 14) 800 nw (by omega)) (fun r K1 hr => ?_)
    obtain ⟨rfl, rfl⟩ := hr
    refine zs_K (K' := [(mo, .inr (11, fMo e (upd g 22 (nI 1)) w)), ((e 14), .inl (0, 800, .inl (mStd nw)))]) [0, 1] rfl (by decide) ?_
    exact zs_vret dX13_lay_20 rfl ⟨rfl, upd g 22 (nI 1), mFr_u mFr_r (by decide), rfl, by rw [mLay, if_pos c_1]; rfl⟩
  · exact zs_vret dX13_lay_7 rfl ⟨rfl, g, mFr_r, hb.resolve_left c_1, by rw [mLay, if_neg c_1]; rfl⟩
theorem dX13_men_0 : decode cX13_men 0 = .ok (.aload_n 0, 1) := by decide +kernel
theorem dX13_men_1 : decode cX13_men 1 = .ok (.getfield 13, 3) := by decide +kernel
theorem dX13_men_4 : decode cX13_men 4 = .ok (.iconst 0, 1) := by decide +kernel
theorem dX13_men_5 : decode cX13_men 5 = .ok (.iaload, 1) := by decide +kernel
theorem dX13_men_6 : decode cX13_men 6 = .ok (.ireturn, 1) := by decide +kernel
set_option maxRecDepth 100000 in
theorem s_mMen (l : Launch) (dd : Nat) (mo : Nat) (e : Nat → Nat) (g : Nat → Int32) (w : Int64) (nw : Nat → Int32) (D : zYd) (hR : yR D nw) : zSp l mX13_men dd 0 0 [.ref mo] [(mo, .inr (11, fMo e g w)), ((e 14), .inl (0, 800, .inl nw))] (fun r K' => r = some (.int (nI (D.1 0))) ∧ K' = [(mo, .inr (11, fMo e g w))] ++ [((e 14), .inl (0, 800, .inl nw))]) := by
  refine zSp.of (by decide) (Nat.le_of_ble_eq_true rfl) (fun h0 => ?_)
  show zS _ 0 0 0 [(0, .ref mo)] [] [(mo, .inr (11, fMo e g w)), ((e 14), .inl (0, 800, .inl nw))]
  refine zs_aload_n dX13_men_0 rfl rfl ?_
  refine zs_get 0 dX13_men_1 zf_RX13_13 rfl (v := .ref (e 14)) rfl ?_
  refine zs_iconst (v := nI 0) dX13_men_4 (by decide) ?_
  refine zs_iald 1 dX13_men_5 rfl (vp_in_nI (by omega) (by omega)) ?_
  refine zs_as (y := nI (D.1 0)) (by rw [nI_c (n := 0) (by omega)]; exact hR.1) ?_
  exact zs_iret dX13_men_6 rfl ⟨rfl, rfl⟩
theorem dX13_columns_0 : decode cX13_columns 0 = .ok (.aload_n 0, 1) := by decide +kernel
theorem dX13_columns_1 : decode cX13_columns 1 = .ok (.getfield 13, 3) := by decide +kernel
theorem dX13_columns_4 : decode cX13_columns 4 = .ok (.bipush 9, 2) := by decide +kernel
theorem dX13_columns_6 : decode cX13_columns 6 = .ok (.iaload, 1) := by decide +kernel
theorem dX13_columns_7 : decode cX13_columns 7 = .ok (.ireturn, 1) := by decide +kernel
set_option maxRecDepth 100000 in
theorem s_mCols (l : Launch) (dd : Nat) (mo : Nat) (e : Nat → Nat) (g : Nat → Int32) (w : Int64) (nw : Nat → Int32) (D : zYd) (hR : yR D nw) : zSp l mX13_columns dd 0 0 [.ref mo] [(mo, .inr (11, fMo e g w)), ((e 14), .inl (0, 800, .inl nw))] (fun r K' => r = some (.int (nI (D.1 14))) ∧ K' = [(mo, .inr (11, fMo e g w))] ++ [((e 14), .inl (0, 800, .inl nw))]) := by
  refine zSp.of (by decide) (Nat.le_of_ble_eq_true rfl) (fun h0 => ?_)
  show zS _ 0 0 0 [(0, .ref mo)] [] [(mo, .inr (11, fMo e g w)), ((e 14), .inl (0, 800, .inl nw))]
  refine zs_aload_n dX13_columns_0 rfl rfl ?_
  refine zs_get 0 dX13_columns_1 zf_RX13_13 rfl (v := .ref (e 14)) rfl ?_
  refine zs_bipush (v := nI 9) dX13_columns_4 (by decide) ?_
  refine zs_iald 1 dX13_columns_6 rfl (vp_in_nI (by omega) (by omega)) ?_
  refine zs_as (y := nI (D.1 14)) (by rw [nI_c (n := 9) (by omega)]; exact hR.2.2.2.2.2.2.2.2.2.1) ?_
  exact zs_iret dX13_columns_7 rfl ⟨rfl, rfl⟩
theorem dX13_manOf_0 : decode cX13_manOf 0 = .ok (.aload_n 0, 1) := by decide +kernel
theorem dX13_manOf_1 : decode cX13_manOf 1 = .ok (.getfield 13, 3) := by decide +kernel
theorem dX13_manOf_4 : decode cX13_manOf 4 = .ok (.bipush 20, 2) := by decide +kernel
theorem dX13_manOf_6 : decode cX13_manOf 6 = .ok (.iconst 3, 1) := by decide +kernel
theorem dX13_manOf_7 : decode cX13_manOf 7 = .ok (.iload_n 1, 1) := by decide +kernel
theorem dX13_manOf_8 : decode cX13_manOf 8 = .ok (.imul, 1) := by decide +kernel
theorem dX13_manOf_9 : decode cX13_manOf 9 = .ok (.iadd, 1) := by decide +kernel
theorem dX13_manOf_10 : decode cX13_manOf 10 = .ok (.iload_n 2, 1) := by decide +kernel
theorem dX13_manOf_11 : decode cX13_manOf 11 = .ok (.iadd, 1) := by decide +kernel
theorem dX13_manOf_12 : decode cX13_manOf 12 = .ok (.iaload, 1) := by decide +kernel
theorem dX13_manOf_13 : decode cX13_manOf 13 = .ok (.ireturn, 1) := by decide +kernel
def mManO (D : zYd) (m what : Nat) : Nat := if what = 0 then D.2.2.2.1 m else if what = 1 then D.2.2.2.2.1 m else D.2.2.2.2.2.1 m
theorem yR_man {D : zYd} {f : Nat → Int32} (h : yR D f) {m what : Nat} (hm : m < D.1 0) (hw : what ≤ 2) : f (20 + 3 * m + what) = nI (mManO D m what) := by
  have h1 := h.2.2.2.2.2.2.2.2.2.2.2.2.1 m hm
  unfold mManO
  by_cases h0 : what = 0
  · rw [h0, if_pos rfl]; exact h1.1
  · by_cases h2 : what = 1
    · rw [h2, if_neg (by decide), if_pos rfl]; exact h1.2.1
    · rw [if_neg h0, if_neg h2, show what = 2 by omega]; exact h1.2.2
set_option maxRecDepth 100000 in
theorem s_mManOf (l : Launch) (dd : Nat) (mo : Nat) (e : Nat → Nat) (g : Nat → Int32) (w : Int64) (nw : Nat → Int32) (D : zYd) (m what : Nat) (hR : yR D nw) (hm : m < D.1 0) (hD : D.1 0 ≤ 12) (hw : what ≤ 2) : zSp l mX13_manOf dd 0 0 [.ref mo, .int (nI m), .int (nI what)] [(mo, .inr (11, fMo e g w)), ((e 14), .inl (0, 800, .inl nw))] (fun r K' => r = some (.int (nI (mManO D m what))) ∧ K' = [(mo, .inr (11, fMo e g w))] ++ [((e 14), .inl (0, 800, .inl nw))]) := by
  refine zSp.of (by decide) (Nat.le_of_ble_eq_true rfl) (fun h0 => ?_)
  show zS _ 0 0 0 [(0, .ref mo), (1, .int (nI m)), (2, .int (nI what))] [] [(mo, .inr (11, fMo e g w)), ((e 14), .inl (0, 800, .inl nw))]
  refine zs_aload_n dX13_manOf_0 rfl rfl ?_
  refine zs_get 0 dX13_manOf_1 zf_RX13_13 rfl (v := .ref (e 14)) rfl ?_
  refine zs_bipush (v := nI 20) dX13_manOf_4 (by decide) ?_
  refine zs_iconst (v := nI 3) dX13_manOf_6 (by decide) ?_
  refine zs_iload_n dX13_manOf_7 rfl ?_
  refine zs_imul dX13_manOf_8 ?_
  refine zs_as (y := nI (3 * m)) (nI_mul _ _) ?_
  refine zs_iadd dX13_manOf_9 ?_
  refine zs_as (y := nI (20 + (3 * m))) (nI_add _ _) ?_
  refine zs_iload_n dX13_manOf_10 rfl ?_
  refine zs_iadd dX13_manOf_11 ?_
  refine zs_as (y := nI ((20 + (3 * m)) + what)) (nI_add _ _) ?_
  refine zs_iald 1 dX13_manOf_12 rfl (vp_in_nI (by omega) (by omega)) ?_
  refine zs_as (y := nI (mManO D m what)) (by rw [nI_c (by omega)]; exact yR_man hR hm hw) ?_
  exact zs_iret dX13_manOf_13 rfl ⟨rfl, rfl⟩
theorem dX13_cells_0 : decode cX13_cells 0 = .ok (.aload_n 0, 1) := by decide +kernel
theorem dX13_cells_1 : decode cX13_cells 1 = .ok (.getfield 13, 3) := by decide +kernel
theorem dX13_cells_4 : decode cX13_cells 4 = .ok (.bipush 9, 2) := by decide +kernel
theorem dX13_cells_6 : decode cX13_cells 6 = .ok (.iaload, 1) := by decide +kernel
theorem dX13_cells_7 : decode cX13_cells 7 = .ok (.aload_n 0, 1) := by decide +kernel
theorem dX13_cells_8 : decode cX13_cells 8 = .ok (.getfield 13, 3) := by decide +kernel
theorem dX13_cells_11 : decode cX13_cells 11 = .ok (.bipush 10, 2) := by decide +kernel
theorem dX13_cells_13 : decode cX13_cells 13 = .ok (.iaload, 1) := by decide +kernel
theorem dX13_cells_14 : decode cX13_cells 14 = .ok (.imul, 1) := by decide +kernel
theorem dX13_cells_15 : decode cX13_cells 15 = .ok (.ireturn, 1) := by decide +kernel
set_option maxRecDepth 100000 in
theorem s_mCells (l : Launch) (dd : Nat) (mo : Nat) (e : Nat → Nat) (g : Nat → Int32) (w : Int64) (nw : Nat → Int32) (D : zYd) (hR : yR D nw) : zSp l mX13_cells dd 0 0 [.ref mo] [(mo, .inr (11, fMo e g w)), ((e 14), .inl (0, 800, .inl nw))] (fun r K' => r = some (.int (nI (D.1 14 * D.1 15))) ∧ K' = [(mo, .inr (11, fMo e g w))] ++ [((e 14), .inl (0, 800, .inl nw))]) := by
  refine zSp.of (by decide) (Nat.le_of_ble_eq_true rfl) (fun h0 => ?_)
  show zS _ 0 0 0 [(0, .ref mo)] [] [(mo, .inr (11, fMo e g w)), ((e 14), .inl (0, 800, .inl nw))]
  refine zs_aload_n dX13_cells_0 rfl rfl ?_
  refine zs_get 0 dX13_cells_1 zf_RX13_13 rfl (v := .ref (e 14)) rfl ?_
  refine zs_bipush (v := nI 9) dX13_cells_4 (by decide) ?_
  refine zs_iald 1 dX13_cells_6 rfl (vp_in_nI (by omega) (by omega)) ?_
  refine zs_as (y := nI (D.1 14)) (by rw [nI_c (n := 9) (by omega)]; exact hR.2.2.2.2.2.2.2.2.2.1) ?_
  refine zs_aload_n dX13_cells_7 rfl rfl ?_
  refine zs_get 0 dX13_cells_8 zf_RX13_13 rfl (v := .ref (e 14)) rfl ?_
  refine zs_bipush (v := nI 10) dX13_cells_11 (by decide) ?_
  refine zs_iald 1 dX13_cells_13 rfl (vp_in_nI (by omega) (by omega)) ?_
  refine zs_as (y := nI (D.1 15)) (by rw [nI_c (n := 10) (by omega)]; exact hR.2.2.2.2.2.2.2.2.2.2.1) ?_
  refine zs_imul dX13_cells_14 ?_
  refine zs_as (y := nI ((D.1 14) * (D.1 15))) (nI_mul _ _) ?_
  exact zs_iret dX13_cells_15 rfl ⟨rfl, rfl⟩
