/-! ===== the reference: more(), moreAt() ===== -/
set_option maxRecDepth 100000 in
theorem lp_mm1 {l : Launch} {dd : Nat} {Po : zPo} {K0 : zK} {h0 : List va_E} {Xo : zK → Prop} {Gc : zG → Prop} (mo : Nat) (e : Nat → Nat) (g : Nat → Int32) (w : Int64) (nw : Nat → Int32) (D : zYd) (M : zRs) (bt : Nat → Nat) (f gb : Nat → Nat) (bd : Nat → Int32) (n kk : Nat) (h33 : M.1 33 = n) (hn : 2 ≤ n ∧ n ≤ 12)
    (hk : zS (l, mX13_more, dd, Po, K0, h0, Xo, Gc) 0 0 51 [(0, .ref mo), (1, .int (nI kk))] [] [(mo, .inr (11, fMo e (mg g M.1) w)), ((e 14), .inl (0, 800, .inl nw)), ((e 24), .inl (0, 12, .inl (nF (M.2 24)))), ((e 25), .inl (0, 12, .inl (nF (M.2 25)))), ((e 26), .inl (0, 12, .inl (nF (M.2 26)))), ((e 27), .inl (0, 12, .inl (nF (M.2 27)))), ((e 28), .inl (0, 360, .inl (nF (M.2 28)))), ((e 29), .inl (0, 12, .inl (nF (M.2 29)))), ((e 30), .inl (0, 12, .inl (nF (M.2 30)))), ((e 31), .inl (0, 30, .inl (nF (M.2 31)))), ((e 32), .inl (0, 12, .inl (nF (M.2 32)))), ((e 1), .inl (0, 740, .inl (nF bt))), ((e 53), .inl (0, 12, .inl (nF (nCl (fun _ => 0) gb n)))), ((e 54), .inl (0, 12, .inl bd))]) :
    ∀ (m i : Nat) , i + m = n → zS (l, mX13_more, dd, Po, K0, h0, Xo, Gc) 0 0 30 [(0, .ref mo), (1, .int (nI kk)), (2, .int (nI i))] [] [(mo, .inr (11, fMo e (mg g M.1) w)), ((e 14), .inl (0, 800, .inl nw)), ((e 24), .inl (0, 12, .inl (nF (M.2 24)))), ((e 25), .inl (0, 12, .inl (nF (M.2 25)))), ((e 26), .inl (0, 12, .inl (nF (M.2 26)))), ((e 27), .inl (0, 12, .inl (nF (M.2 27)))), ((e 28), .inl (0, 360, .inl (nF (M.2 28)))), ((e 29), .inl (0, 12, .inl (nF (M.2 29)))), ((e 30), .inl (0, 12, .inl (nF (M.2 30)))), ((e 31), .inl (0, 30, .inl (nF (M.2 31)))), ((e 32), .inl (0, 12, .inl (nF (M.2 32)))), ((e 1), .inl (0, 740, .inl (nF bt))), ((e 53), .inl (0, 12, .inl (nF (nCl (fun _ => 0) gb i)))), ((e 54), .inl (0, 12, .inl bd))] := by
  intro m
  induction m with
  | zero =>
    intro i hi
    refine zs_iload_n dX13_more_30 rfl ?_
    refine zs_aload_n dX13_more_31 rfl rfl ?_
    refine zs_get 0 dX13_more_32 zf_RX13_304 rfl (v := .int (nI (M.1 33))) rfl ?_
    refine zs_icmp_ge (tgt := 51) dX13_more_35 (by decide) (fun c_1 => ?_) (fun c_1 => (c_1 (by rw [show i = M.1 33 by omega]; exact Int32.le_refl _) : False).elim)
    rw [show i = n by omega]
    refine zs_lv [0, 1] rfl ?_
    exact hk
  | succ m ih =>
    intro i hi
    refine zs_iload_n dX13_more_30 rfl ?_
    refine zs_aload_n dX13_more_31 rfl rfl ?_
    refine zs_get 0 dX13_more_32 zf_RX13_304 rfl (v := .int (nI (M.1 33))) rfl ?_
    refine zs_icmp_ge (tgt := 51) dX13_more_35 (by decide) (fun c_1 => (nI_ge (show i < M.1 33 by omega) (by omega) c_1 : False).elim) (fun c_1 => ?_)
    refine zs_aload_n dX13_more_38 rfl rfl ?_
    refine zs_get 0 dX13_more_39 zf_RX13_84 rfl (v := .ref (e 53)) rfl ?_
    refine zs_iload_n dX13_more_42 rfl ?_
    refine zs_iconst (v := nI 0) dX13_more_43 (by decide) ?_
    refine zs_iast 12 dX13_more_44 rfl (vp_in_nI (by omega) (by omega)) ?_
    rw [nI_c (n := i) (by omega), nF_u]
    rw [nCl_u (new := fun _ => 0) (old := gb) (k := i) rfl]
    show zS _ _ _ _ _ _ [(mo, .inr (11, fMo e (mg g M.1) w)), ((e 14), .inl (0, 800, .inl nw)), ((e 24), .inl (0, 12, .inl (nF (M.2 24)))), ((e 25), .inl (0, 12, .inl (nF (M.2 25)))), ((e 26), .inl (0, 12, .inl (nF (M.2 26)))), ((e 27), .inl (0, 12, .inl (nF (M.2 27)))), ((e 28), .inl (0, 360, .inl (nF (M.2 28)))), ((e 29), .inl (0, 12, .inl (nF (M.2 29)))), ((e 30), .inl (0, 12, .inl (nF (M.2 30)))), ((e 31), .inl (0, 30, .inl (nF (M.2 31)))), ((e 32), .inl (0, 12, .inl (nF (M.2 32)))), ((e 1), .inl (0, 740, .inl (nF bt))), ((e 53), .inl (0, 12, .inl (nF (nCl (fun _ => 0) gb (i + 1))))), ((e 54), .inl (0, 12, .inl bd))]
    refine zs_iinc (v := (nI (i + 1))) (lv' := [(2, .int (nI (i + 1))), (0, .ref mo), (1, .int (nI kk))]) dX13_more_45 rfl (nI_add _ 1) (Nat.le_of_ble_eq_true rfl) rfl ?_
    refine zs_goto (tgt := 30) dX13_more_48 (by decide) ?_
    refine zs_lv [1, 2, 0] rfl ?_
    exact ih (i + 1) (by omega)
set_option maxRecDepth 100000 in
theorem lp_mm2 {l : Launch} {dd : Nat} {Po : zPo} {K0 : zK} {h0 : List va_E} {Xo : zK → Prop} {Gc : zG → Prop} (mo : Nat) (e : Nat → Nat) (g : Nat → Int32) (w : Int64) (nw : Nat → Int32) (D : zYd) (M : zRs) (bt : Nat → Nat) (f gb : Nat → Nat) (bd : Nat → Int32) (n kk : Nat) (h33 : M.1 33 = n) (hn : 2 ≤ n ∧ n ≤ 12) (hd : 6 ≤ dd) (hR : yR D nw) (hD : yI D) (hkk : kk ≤ 9) (hft : ∀ p, p < n → M.2 24 p = f p) (hfD : ∀ p, p < n → f p < D.1 0) (hk : zS (l, mX13_more, dd, Po, K0, h0, Xo, Gc) 0 0 81 [(0, .ref mo), (1, .int (nI kk))] [] [(mo, .inr (11, fMo e (mg g M.1) w)), ((e 14), .inl (0, 800, .inl nw)), ((e 24), .inl (0, 12, .inl (nF (M.2 24)))), ((e 25), .inl (0, 12, .inl (nF (M.2 25)))), ((e 26), .inl (0, 12, .inl (nF (M.2 26)))), ((e 27), .inl (0, 12, .inl (nF (M.2 27)))), ((e 28), .inl (0, 360, .inl (nF (M.2 28)))), ((e 29), .inl (0, 12, .inl (nF (M.2 29)))), ((e 30), .inl (0, 12, .inl (nF (M.2 30)))), ((e 31), .inl (0, 30, .inl (nF (M.2 31)))), ((e 32), .inl (0, 12, .inl (nF (M.2 32)))), ((e 1), .inl (0, 740, .inl (nF bt))), ((e 53), .inl (0, 12, .inl (nF (mBe D f gb n kk)))), ((e 54), .inl (0, 12, .inl bd))]) : ∀ (m i : Nat), i + m = kk → zS (l, mX13_more, dd, Po, K0, h0, Xo, Gc) 0 0 53 [(0, .ref mo), (1, .int (nI kk)), (2, .int (nI i))] [] [(mo, .inr (11, fMo e (mg g M.1) w)), ((e 14), .inl (0, 800, .inl nw)), ((e 24), .inl (0, 12, .inl (nF (M.2 24)))), ((e 25), .inl (0, 12, .inl (nF (M.2 25)))), ((e 26), .inl (0, 12, .inl (nF (M.2 26)))), ((e 27), .inl (0, 12, .inl (nF (M.2 27)))), ((e 28), .inl (0, 360, .inl (nF (M.2 28)))), ((e 29), .inl (0, 12, .inl (nF (M.2 29)))), ((e 30), .inl (0, 12, .inl (nF (M.2 30)))), ((e 31), .inl (0, 30, .inl (nF (M.2 31)))), ((e 32), .inl (0, 12, .inl (nF (M.2 32)))), ((e 1), .inl (0, 740, .inl (nF bt))), ((e 53), .inl (0, 12, .inl (nF (mBe D f gb n i)))), ((e 54), .inl (0, 12, .inl bd))] := by
  intro m
  induction m with
  | zero =>
    intro i hi
    refine zs_iload_n dX13_more_53 rfl ?_
    refine zs_iload_n dX13_more_54 rfl ?_
    refine zs_icmp_ge (tgt := 81) dX13_more_55 (by decide) (fun c_1 => ?_) (fun c_1 => (c_1 (by rw [show i = kk by omega]; exact Int32.le_refl _) : False).elim)
    rw [show i = kk by omega]
    refine zs_lv [0, 1] rfl ?_
    exact hk
  | succ m ih =>
    intro i hi
    refine zs_iload_n dX13_more_53 rfl ?_
    refine zs_iload_n dX13_more_54 rfl ?_
    refine zs_icmp_ge (tgt := 81) dX13_more_55 (by decide) (fun c_1 => (nI_ge (show i < kk by omega) (by omega) c_1 : False).elim) (fun c_1 => ?_)
    refine zs_aload_n dX13_more_58 rfl rfl ?_
    refine zs_get 0 dX13_more_59 zf_RX13_84 rfl (v := .ref (e 53)) rfl ?_
    refine zs_aload_n dX13_more_62 rfl rfl ?_
    refine zs_aload_n dX13_more_63 rfl rfl ?_
    refine zs_get 0 dX13_more_64 zf_RX13_304 rfl (v := .int (nI (M.1 33))) rfl ?_
    refine zs_as (y := nI n) (congrArg nI h33) ?_
    refine zs_callV (M := mX13_longest) (As := [.int (nI n)]) (st := [.ref (e 53)]) (Kc := [(mo, .inr (11, fMo e (mg g M.1) w)), ((e 14), .inl (0, 800, .inl nw)), ((e 24), .inl (0, 12, .inl (nF (M.2 24)))), ((e 25), .inl (0, 12, .inl (nF (M.2 25)))), ((e 26), .inl (0, 12, .inl (nF (M.2 26)))), ((e 27), .inl (0, 12, .inl (nF (M.2 27)))), ((e 28), .inl (0, 360, .inl (nF (M.2 28)))), ((e 29), .inl (0, 12, .inl (nF (M.2 29)))), ((e 30), .inl (0, 12, .inl (nF (M.2 30)))), ((e 31), .inl (0, 30, .inl (nF (M.2 31)))), ((e 32), .inl (0, 12, .inl (nF (M.2 32)))), ((e 53), .inl (0, 12, .inl (nF (mBe D f gb n i))))]) (Kr := [((e 1), .inl (0, 740, .inl (nF bt))), ((e 54), .inl (0, 12, .inl bd))]) [0, 1, 2, 3, 4, 5, 6, 7, 8, 9, 10, 12] [11, 13] 0 dX13_more_67 zl_RX13_402 kX13_longest rfl rfl rfl rfl rfl (by decide) rfl rfl (show dd - 1 + 1 ≤ dd by omega) (Nat.zero_le _) (Nat.zero_le _) (Nat.le_of_ble_eq_true rfl) (s_mLongest l (dd - 1) mo e g w nw D M f (mBe D f gb n i) n (by omega) hR hD hn hft hfD (fun p hp => by rw [mBe_p _ p hp]; have := pOth_le (D := D) (f := f) (n := n) i p; omega)) (fun r K1 hr => ?_)
    obtain ⟨rfl, rfl⟩ := hr
    refine zs_K (K' := [(mo, .inr (11, fMo e (mg g M.1) w)), ((e 14), .inl (0, 800, .inl nw)), ((e 24), .inl (0, 12, .inl (nF (M.2 24)))), ((e 25), .inl (0, 12, .inl (nF (M.2 25)))), ((e 26), .inl (0, 12, .inl (nF (M.2 26)))), ((e 27), .inl (0, 12, .inl (nF (M.2 27)))), ((e 28), .inl (0, 360, .inl (nF (M.2 28)))), ((e 29), .inl (0, 12, .inl (nF (M.2 29)))), ((e 30), .inl (0, 12, .inl (nF (M.2 30)))), ((e 31), .inl (0, 30, .inl (nF (M.2 31)))), ((e 32), .inl (0, 12, .inl (nF (M.2 32)))), ((e 1), .inl (0, 740, .inl (nF bt))), ((e 53), .inl (0, 12, .inl (nF (mBe D f gb n i)))), ((e 54), .inl (0, 12, .inl bd))]) [2, 3, 4, 5, 6, 7, 8, 9, 10, 11, 12, 0, 13, 1] rfl (by decide) ?_
    have hsl : pSl D f (mBe D f gb n i) n n < n := pSl_lt n (by omega)
    refine zs_dup2 dX13_more_70 rfl rfl ?_
    refine zs_iald 12 dX13_more_71 rfl (vp_in_nI (by omega) (by omega)) ?_
    refine zs_as (y := nI ((mBe D f gb n i) (pSl D f (mBe D f gb n i) n n))) (by rw [nI_c (n := pSl D f (mBe D f gb n i) n n) (by omega)]; rfl) ?_
    refine zs_iconst (v := nI 1) dX13_more_72 (by decide) ?_
    refine zs_iadd dX13_more_73 ?_
    refine zs_as (y := nI (((mBe D f gb n i) (pSl D f (mBe D f gb n i) n n)) + 1)) (nI_add _ _) ?_
    refine zs_iast 12 dX13_more_74 rfl (vp_in_nI (by omega) (by omega)) ?_
    rw [nI_c (n := pSl D f (mBe D f gb n i) n n) (by omega), nF_u]
    show zS _ _ _ _ _ _ [(mo, .inr (11, fMo e (mg g M.1) w)), ((e 14), .inl (0, 800, .inl nw)), ((e 24), .inl (0, 12, .inl (nF (M.2 24)))), ((e 25), .inl (0, 12, .inl (nF (M.2 25)))), ((e 26), .inl (0, 12, .inl (nF (M.2 26)))), ((e 27), .inl (0, 12, .inl (nF (M.2 27)))), ((e 28), .inl (0, 360, .inl (nF (M.2 28)))), ((e 29), .inl (0, 12, .inl (nF (M.2 29)))), ((e 30), .inl (0, 12, .inl (nF (M.2 30)))), ((e 31), .inl (0, 30, .inl (nF (M.2 31)))), ((e 32), .inl (0, 12, .inl (nF (M.2 32)))), ((e 1), .inl (0, 740, .inl (nF bt))), ((e 53), .inl (0, 12, .inl (nF (un (mBe D f gb n i) (pSl D f (mBe D f gb n i) n n) (((mBe D f gb n i) (pSl D f (mBe D f gb n i) n n)) + 1))))), ((e 54), .inl (0, 12, .inl bd))]
    refine zs_iinc (v := (nI (i + 1))) (lv' := [(2, .int (nI (i + 1))), (0, .ref mo), (1, .int (nI kk))]) dX13_more_75 rfl (nI_add _ 1) (Nat.le_of_ble_eq_true rfl) rfl ?_
    refine zs_goto (tgt := 53) dX13_more_78 (by decide) ?_
    refine zs_lv [1, 2, 0] rfl ?_
    exact ih (i + 1) (by omega)
set_option maxRecDepth 100000 in
theorem lp_mm3 {l : Launch} {dd : Nat} {Po : zPo} {K0 : zK} {h0 : List va_E} {Xo : zK → Prop} {Gc : zG → Prop} (mo : Nat) (e : Nat → Nat) (g : Nat → Int32) (w : Int64) (nw : Nat → Int32) (D : zYd) (M : zRs) (bt : Nat → Nat) (f gb : Nat → Nat) (bd : Nat → Int32) (n kk : Nat) (h33 : M.1 33 = n) (hn : 2 ≤ n ∧ n ≤ 12)
    (hk : zS (l, mX13_more, dd, Po, K0, h0, Xo, Gc) 0 0 117 [(0, .ref mo), (1, .int (nI kk))] [] [(mo, .inr (11, fMo e (mg g M.1) w)), ((e 14), .inl (0, 800, .inl nw)), ((e 24), .inl (0, 12, .inl (nF (M.2 24)))), ((e 25), .inl (0, 12, .inl (nF (M.2 25)))), ((e 26), .inl (0, 12, .inl (nF (M.2 26)))), ((e 27), .inl (0, 12, .inl (nF (M.2 27)))), ((e 28), .inl (0, 360, .inl (nF (M.2 28)))), ((e 29), .inl (0, 12, .inl (nF (M.2 29)))), ((e 30), .inl (0, 12, .inl (nF (M.2 30)))), ((e 31), .inl (0, 30, .inl (nF (M.2 31)))), ((e 32), .inl (0, 12, .inl (nF (M.2 32)))), ((e 1), .inl (0, 740, .inl (nF bt))), ((e 53), .inl (0, 12, .inl (nF gb))), ((e 54), .inl (0, 12, .inl (pCl (nF gb) bd n)))]) :
    ∀ (m i : Nat) , i + m = n → zS (l, mX13_more, dd, Po, K0, h0, Xo, Gc) 0 0 91 [(0, .ref mo), (1, .int (nI kk)), (2, .int (nI i))] [] [(mo, .inr (11, fMo e (mg g M.1) w)), ((e 14), .inl (0, 800, .inl nw)), ((e 24), .inl (0, 12, .inl (nF (M.2 24)))), ((e 25), .inl (0, 12, .inl (nF (M.2 25)))), ((e 26), .inl (0, 12, .inl (nF (M.2 26)))), ((e 27), .inl (0, 12, .inl (nF (M.2 27)))), ((e 28), .inl (0, 360, .inl (nF (M.2 28)))), ((e 29), .inl (0, 12, .inl (nF (M.2 29)))), ((e 30), .inl (0, 12, .inl (nF (M.2 30)))), ((e 31), .inl (0, 30, .inl (nF (M.2 31)))), ((e 32), .inl (0, 12, .inl (nF (M.2 32)))), ((e 1), .inl (0, 740, .inl (nF bt))), ((e 53), .inl (0, 12, .inl (nF gb))), ((e 54), .inl (0, 12, .inl (pCl (nF gb) bd i)))] := by
  intro m
  induction m with
  | zero =>
    intro i hi
    refine zs_iload_n dX13_more_91 rfl ?_
    refine zs_aload_n dX13_more_92 rfl rfl ?_
    refine zs_get 0 dX13_more_93 zf_RX13_304 rfl (v := .int (nI (M.1 33))) rfl ?_
    refine zs_icmp_ge (tgt := 117) dX13_more_96 (by decide) (fun c_1 => ?_) (fun c_1 => (c_1 (by rw [show i = M.1 33 by omega]; exact Int32.le_refl _) : False).elim)
    rw [show i = n by omega]
    refine zs_lv [0, 1] rfl ?_
    exact hk
  | succ m ih =>
    intro i hi
    refine zs_iload_n dX13_more_91 rfl ?_
    refine zs_aload_n dX13_more_92 rfl rfl ?_
    refine zs_get 0 dX13_more_93 zf_RX13_304 rfl (v := .int (nI (M.1 33))) rfl ?_
    refine zs_icmp_ge (tgt := 117) dX13_more_96 (by decide) (fun c_1 => (nI_ge (show i < M.1 33 by omega) (by omega) c_1 : False).elim) (fun c_1 => ?_)
    refine zs_aload_n dX13_more_99 rfl rfl ?_
    refine zs_get 0 dX13_more_100 zf_RX13_87 rfl (v := .ref (e 54)) rfl ?_
    refine zs_iload_n dX13_more_103 rfl ?_
    refine zs_aload_n dX13_more_104 rfl rfl ?_
    refine zs_get 0 dX13_more_105 zf_RX13_84 rfl (v := .ref (e 53)) rfl ?_
    refine zs_iload_n dX13_more_108 rfl ?_
    refine zs_iald 12 dX13_more_109 rfl (vp_in_nI (by omega) (by omega)) ?_
    refine zs_as (y := nI (gb i)) (by rw [nI_c (n := i) (by omega)]; rfl) ?_
    refine zs_iast 13 dX13_more_110 rfl (vp_in_nI (by omega) (by omega)) ?_
    rw [nI_c (n := i) (by omega)]
    rw [pCl_u (new := nF gb) (old := bd) (k := i) (x := nI (gb i)) rfl]
    show zS _ _ _ _ _ _ [(mo, .inr (11, fMo e (mg g M.1) w)), ((e 14), .inl (0, 800, .inl nw)), ((e 24), .inl (0, 12, .inl (nF (M.2 24)))), ((e 25), .inl (0, 12, .inl (nF (M.2 25)))), ((e 26), .inl (0, 12, .inl (nF (M.2 26)))), ((e 27), .inl (0, 12, .inl (nF (M.2 27)))), ((e 28), .inl (0, 360, .inl (nF (M.2 28)))), ((e 29), .inl (0, 12, .inl (nF (M.2 29)))), ((e 30), .inl (0, 12, .inl (nF (M.2 30)))), ((e 31), .inl (0, 30, .inl (nF (M.2 31)))), ((e 32), .inl (0, 12, .inl (nF (M.2 32)))), ((e 1), .inl (0, 740, .inl (nF bt))), ((e 53), .inl (0, 12, .inl (nF gb))), ((e 54), .inl (0, 12, .inl (pCl (nF gb) bd (i + 1))))]
    refine zs_iinc (v := (nI (i + 1))) (lv' := [(2, .int (nI (i + 1))), (0, .ref mo), (1, .int (nI kk))]) dX13_more_111 rfl (nI_add _ 1) (Nat.le_of_ble_eq_true rfl) rfl ?_
    refine zs_goto (tgt := 91) dX13_more_114 (by decide) ?_
    refine zs_lv [1, 2, 0] rfl ?_
    exact ih (i + 1) (by omega)
/-- what a list told stands for -/
def mLi (f : Nat → Nat) (n : Nat) (bd : Nat → Int32) (many : Int32) : Prop := many = nI n ∧ ∀ p, p < n → bd p = nI (f p)
set_option maxRecDepth 100000 in
theorem s_mMore (l : Launch) (dd : Nat) (mo : Nat) (e : Nat → Nat) (g : Nat → Int32) (w : Int64) (nw : Nat → Int32) (D : zYd) (M : zRs) (bt : Nat → Nat) (n : Nat) (f gb : Nat → Nat) (bd : Nat → Int32) (x : Int32) (hd : 7 ≤ dd) (hR : yR D (mLay g nw)) (hD : yI D) (hb : g 22 = 0 ∨ g 22 = 1) (h2 : g 2 = nI n) (hn : n ≤ 740) (hbt : ∀ j, bt j < 256) (hf : ∀ p, p < n → f p = bt p) : zSp l mX13_more dd 0 0 [.ref mo, .int x] [(mo, .inr (11, fMo e (mg g M.1) w)), ((e 14), .inl (0, 800, .inl nw)), ((e 24), .inl (0, 12, .inl (nF (M.2 24)))), ((e 25), .inl (0, 12, .inl (nF (M.2 25)))), ((e 26), .inl (0, 12, .inl (nF (M.2 26)))), ((e 27), .inl (0, 12, .inl (nF (M.2 27)))), ((e 28), .inl (0, 360, .inl (nF (M.2 28)))), ((e 29), .inl (0, 12, .inl (nF (M.2 29)))), ((e 30), .inl (0, 12, .inl (nF (M.2 30)))), ((e 31), .inl (0, 30, .inl (nF (M.2 31)))), ((e 32), .inl (0, 12, .inl (nF (M.2 32)))), ((e 1), .inl (0, 740, .inl (nF bt))), ((e 53), .inl (0, 12, .inl (nF gb))), ((e 54), .inl (0, 12, .inl bd))] (fun r K' => ((pMn bt n (D.1 0) 2 12 = 0 ∨ x < 0 ∨ nI 9 < x) ∧ r = some (.int (-1)) ∧ ∃ (g' : Nat → Int32) (M' : zRs), mFr [0, 2, 22, 33, 34, 35, 36, 37, 38, 39, 40, 41, 42, 55] g g' ∧ g' 0 = nI 0 ∧ g' 2 = nI 0 ∧ g' 22 = 1 ∧ g' 55 = g 55 ∧ K' = [(mo, .inr (11, fMo e (mg g' M'.1) w)), ((e 14), .inl (0, 800, .inl (mLay g nw))), ((e 24), .inl (0, 12, .inl (nF (M'.2 24)))), ((e 25), .inl (0, 12, .inl (nF (M'.2 25)))), ((e 26), .inl (0, 12, .inl (nF (M'.2 26)))), ((e 27), .inl (0, 12, .inl (nF (M'.2 27)))), ((e 28), .inl (0, 360, .inl (nF (M'.2 28)))), ((e 29), .inl (0, 12, .inl (nF (M'.2 29)))), ((e 30), .inl (0, 12, .inl (nF (M'.2 30)))), ((e 31), .inl (0, 30, .inl (nF (M'.2 31)))), ((e 32), .inl (0, 12, .inl (nF (M'.2 32)))), ((e 1), .inl (0, 740, .inl (nF bt))), ((e 53), .inl (0, 12, .inl (nF gb))), ((e 54), .inl (0, 12, .inl bd))]) ∨ (∃ k, k ≤ 9 ∧ x = nI k ∧ ¬ pMn bt n (D.1 0) 2 12 = 0 ∧ r = some (.int (nI (nSh D f (pOth D f n k) n (pSl D f (pOth D f n k) n n)))) ∧ ∃ (g' : Nat → Int32) (M' : zRs) (gb' : Nat → Nat) (bd' : Nat → Int32), mFr [0, 2, 22, 33, 34, 35, 36, 37, 38, 39, 40, 41, 42, 55] g g' ∧ g' 0 = nI 0 ∧ g' 2 = nI 0 ∧ g' 22 = 1 ∧ mLi (pOth D f n k) n bd' (g' 55) ∧ K' = [(mo, .inr (11, fMo e (mg g' M'.1) w)), ((e 14), .inl (0, 800, .inl (mLay g nw))), ((e 24), .inl (0, 12, .inl (nF (M'.2 24)))), ((e 25), .inl (0, 12, .inl (nF (M'.2 25)))), ((e 26), .inl (0, 12, .inl (nF (M'.2 26)))), ((e 27), .inl (0, 12, .inl (nF (M'.2 27)))), ((e 28), .inl (0, 360, .inl (nF (M'.2 28)))), ((e 29), .inl (0, 12, .inl (nF (M'.2 29)))), ((e 30), .inl (0, 12, .inl (nF (M'.2 30)))), ((e 31), .inl (0, 30, .inl (nF (M'.2 31)))), ((e 32), .inl (0, 12, .inl (nF (M'.2 32)))), ((e 1), .inl (0, 740, .inl (nF bt))), ((e 53), .inl (0, 12, .inl (nF gb'))), ((e 54), .inl (0, 12, .inl (bd')))])) := by
  refine zSp.of (by decide) (Nat.le_of_ble_eq_true rfl) (fun h0 => ?_)
  show zS _ 0 0 0 [(0, .ref mo), (1, .int x)] [] [(mo, .inr (11, fMo e (mg g M.1) w)), ((e 14), .inl (0, 800, .inl nw)), ((e 24), .inl (0, 12, .inl (nF (M.2 24)))), ((e 25), .inl (0, 12, .inl (nF (M.2 25)))), ((e 26), .inl (0, 12, .inl (nF (M.2 26)))), ((e 27), .inl (0, 12, .inl (nF (M.2 27)))), ((e 28), .inl (0, 360, .inl (nF (M.2 28)))), ((e 29), .inl (0, 12, .inl (nF (M.2 29)))), ((e 30), .inl (0, 12, .inl (nF (M.2 30)))), ((e 31), .inl (0, 30, .inl (nF (M.2 31)))), ((e 32), .inl (0, 12, .inl (nF (M.2 32)))), ((e 1), .inl (0, 740, .inl (nF bt))), ((e 53), .inl (0, 12, .inl (nF gb))), ((e 54), .inl (0, 12, .inl bd))]
  refine zs_aload_n dX13_more_0 rfl rfl ?_
  refine zs_iconst (v := nI 0) dX13_more_1 (by decide) ?_
  refine zs_put 0 dX13_more_2 zf_RX13_148 rfl (Nat.le_of_ble_eq_true rfl) (zPv_i _) ?_
  show zS _ _ _ _ _ _ [(mo, .inr (11, fMo e (mg (upd g 0 (nI 0)) M.1) w)), ((e 14), .inl (0, 800, .inl nw)), ((e 24), .inl (0, 12, .inl (nF (M.2 24)))), ((e 25), .inl (0, 12, .inl (nF (M.2 25)))), ((e 26), .inl (0, 12, .inl (nF (M.2 26)))), ((e 27), .inl (0, 12, .inl (nF (M.2 27)))), ((e 28), .inl (0, 360, .inl (nF (M.2 28)))), ((e 29), .inl (0, 12, .inl (nF (M.2 29)))), ((e 30), .inl (0, 12, .inl (nF (M.2 30)))), ((e 31), .inl (0, 30, .inl (nF (M.2 31)))), ((e 32), .inl (0, 12, .inl (nF (M.2 32)))), ((e 1), .inl (0, 740, .inl (nF bt))), ((e 53), .inl (0, 12, .inl (nF gb))), ((e 54), .inl (0, 12, .inl bd))]
  refine zs_aload_n dX13_more_5 rfl rfl ?_
  refine zs_iconst (v := nI 2) dX13_more_6 (by decide) ?_
  refine zs_bipush (v := nI 12) dX13_more_7 (by decide) ?_
  refine zs_iconst (v := nI 1) dX13_more_9 (by decide) ?_
  refine zs_callV (M := mX13_takesTeam) (As := [.int (nI 2), .int (nI 12), .int (nI 1)]) (st := []) (Kc := [(mo, .inr (11, fMo e (mg (upd g 0 (nI 0)) M.1) w)), ((e 14), .inl (0, 800, .inl nw)), ((e 24), .inl (0, 12, .inl (nF (M.2 24)))), ((e 25), .inl (0, 12, .inl (nF (M.2 25)))), ((e 26), .inl (0, 12, .inl (nF (M.2 26)))), ((e 27), .inl (0, 12, .inl (nF (M.2 27)))), ((e 28), .inl (0, 360, .inl (nF (M.2 28)))), ((e 29), .inl (0, 12, .inl (nF (M.2 29)))), ((e 30), .inl (0, 12, .inl (nF (M.2 30)))), ((e 31), .inl (0, 30, .inl (nF (M.2 31)))), ((e 32), .inl (0, 12, .inl (nF (M.2 32)))), ((e 1), .inl (0, 740, .inl (nF bt)))]) (Kr := [((e 53), .inl (0, 12, .inl (nF gb))), ((e 54), .inl (0, 12, .inl bd))]) [0, 1, 2, 3, 4, 5, 6, 7, 8, 9, 10, 11] [12, 13] 0 dX13_more_10 zl_RX13_372 kX13_takesTeam rfl rfl rfl rfl rfl (by decide) rfl rfl (show dd - 1 + 1 ≤ dd by omega) (Nat.zero_le _) (Nat.zero_le _) (Nat.le_of_ble_eq_true rfl) (s_tTeam l (dd - 1) mo e (upd g 0 (nI 0)) w nw D M bt n 2 12 (by omega) hR hD hb h2 hn hbt (by decide) (by decide)) (fun r K1 hr => ?_)
  rcases hr with ⟨htd, rfl, g1, M1, hfr1, h2_1, h22_1, h33, hteam, rfl⟩ | ⟨htd, rfl, g1, M1, hfr1, h2_1, h22_1, rfl⟩
  · refine zs_K (K' := [(mo, .inr (11, fMo e (mg g1 M1.1) w)), ((e 14), .inl (0, 800, .inl (mLay g nw))), ((e 24), .inl (0, 12, .inl (nF (M1.2 24)))), ((e 25), .inl (0, 12, .inl (nF (M1.2 25)))), ((e 26), .inl (0, 12, .inl (nF (M1.2 26)))), ((e 27), .inl (0, 12, .inl (nF (M1.2 27)))), ((e 28), .inl (0, 360, .inl (nF (M1.2 28)))), ((e 29), .inl (0, 12, .inl (nF (M1.2 29)))), ((e 30), .inl (0, 12, .inl (nF (M1.2 30)))), ((e 31), .inl (0, 30, .inl (nF (M1.2 31)))), ((e 32), .inl (0, 12, .inl (nF (M1.2 32)))), ((e 1), .inl (0, 740, .inl (nF bt))), ((e 53), .inl (0, 12, .inl (nF gb))), ((e 54), .inl (0, 12, .inl bd))]) [2, 3, 4, 5, 6, 7, 8, 9, 10, 11, 12, 13, 0, 1] rfl (by decide) ?_
    have hmn : pMn bt n (D.1 0) 2 12 = n := if_pos htd
    have htp : pTdP bt n (D.1 0) 2 12 := of_decide_eq_true htd
    have hn12 : n ≤ 12 := Nat.le_trans htp.2.1 (by decide)
    have hnlo : 2 ≤ n := htp.1
    refine zs_if_eq (tgt := 26) dX13_more_13 (by decide) (fun c_1 => (by first | exact absurd c_1 (by decide) | exact absurd (by decide) c_1 : False).elim) (fun c_1 => ?_)
    refine zs_iload_n dX13_more_16 rfl ?_
    refine zs_iconst (v := nI 0) dX13_more_17 (by decide) ?_
    refine zs_bipush (v := nI 9) dX13_more_18 (by decide) ?_
    refine zs_callS (M := mX13_isIn) (As := [.int x, .int (nI 0), .int (nI 9)]) (st := []) (Kc := []) (Kr := [(mo, .inr (11, fMo e (mg g1 M1.1) w)), ((e 14), .inl (0, 800, .inl (mLay g nw))), ((e 24), .inl (0, 12, .inl (nF (M1.2 24)))), ((e 25), .inl (0, 12, .inl (nF (M1.2 25)))), ((e 26), .inl (0, 12, .inl (nF (M1.2 26)))), ((e 27), .inl (0, 12, .inl (nF (M1.2 27)))), ((e 28), .inl (0, 360, .inl (nF (M1.2 28)))), ((e 29), .inl (0, 12, .inl (nF (M1.2 29)))), ((e 30), .inl (0, 12, .inl (nF (M1.2 30)))), ((e 31), .inl (0, 30, .inl (nF (M1.2 31)))), ((e 32), .inl (0, 12, .inl (nF (M1.2 32)))), ((e 1), .inl (0, 740, .inl (nF bt))), ((e 53), .inl (0, 12, .inl (nF gb))), ((e 54), .inl (0, 12, .inl bd))]) [] [0, 1, 2, 3, 4, 5, 6, 7, 8, 9, 10, 11, 12, 13] dX13_more_20 zl_RX13_219 kX13_isIn rfl rfl rfl rfl rfl (by decide) (show dd - 1 + 1 ≤ dd by omega) (Nat.zero_le _) (Nat.zero_le _) (Nat.le_of_ble_eq_true rfl) (s_mIsIn l (dd - 1) x (nI 0) (nI 9)) (fun r K1 hr => ?_)
    obtain ⟨rfl, rfl⟩ := hr
    refine zs_K (K' := [(mo, .inr (11, fMo e (mg g1 M1.1) w)), ((e 14), .inl (0, 800, .inl (mLay g nw))), ((e 24), .inl (0, 12, .inl (nF (M1.2 24)))), ((e 25), .inl (0, 12, .inl (nF (M1.2 25)))), ((e 26), .inl (0, 12, .inl (nF (M1.2 26)))), ((e 27), .inl (0, 12, .inl (nF (M1.2 27)))), ((e 28), .inl (0, 360, .inl (nF (M1.2 28)))), ((e 29), .inl (0, 12, .inl (nF (M1.2 29)))), ((e 30), .inl (0, 12, .inl (nF (M1.2 30)))), ((e 31), .inl (0, 30, .inl (nF (M1.2 31)))), ((e 32), .inl (0, 12, .inl (nF (M1.2 32)))), ((e 1), .inl (0, 740, .inl (nF bt))), ((e 53), .inl (0, 12, .inl (nF gb))), ((e 54), .inl (0, 12, .inl bd))]) [0, 1, 2, 3, 4, 5, 6, 7, 8, 9, 10, 11, 12, 13] rfl (by decide) ?_
    refine zs_if_ne (tgt := 28) dX13_more_23 (by decide) (fun c_2 => ?_) (fun c_2 => ?_)
    · have hin := of_decide_eq_true (bI_t c_2)
      obtain ⟨k, hk, rfl⟩ := zi_nn (x := x) hin.1
      have hk9 : k ≤ 9 := by have h := hin.2; rw [nI_lt' (by omega) (by omega)] at h; omega
      refine zs_iconst (v := nI 0) dX13_more_28 (by decide) ?_
      refine zs_istore_n (lv' := [(2, .int (nI 0)), (0, .ref mo), (1, .int (nI k))]) dX13_more_29 (Nat.le_of_ble_eq_true rfl) rfl ?_
      have hft : ∀ p, p < n → M1.2 24 p = f p := fun p hp => (hteam p hp).trans (hf p hp).symm
      have hfD : ∀ p, p < n → f p < D.1 0 := fun p hp => by rw [hf p hp]; exact htp.2.2.1 p hp
      have hn2 : 2 ≤ n ∧ n ≤ 12 := ⟨hnlo, hn12⟩
      refine zs_lv [1, 2, 0] rfl ?_
      refine zs_eq (K' := [(mo, .inr (11, fMo e (mg g1 M1.1) w)), ((e 14), .inl (0, 800, .inl (mLay g nw))), ((e 24), .inl (0, 12, .inl (nF (M1.2 24)))), ((e 25), .inl (0, 12, .inl (nF (M1.2 25)))), ((e 26), .inl (0, 12, .inl (nF (M1.2 26)))), ((e 27), .inl (0, 12, .inl (nF (M1.2 27)))), ((e 28), .inl (0, 360, .inl (nF (M1.2 28)))), ((e 29), .inl (0, 12, .inl (nF (M1.2 29)))), ((e 30), .inl (0, 12, .inl (nF (M1.2 30)))), ((e 31), .inl (0, 30, .inl (nF (M1.2 31)))), ((e 32), .inl (0, 12, .inl (nF (M1.2 32)))), ((e 1), .inl (0, 740, .inl (nF bt))), ((e 53), .inl (0, 12, .inl (nF (nCl (fun _ => 0) gb 0)))), ((e 54), .inl (0, 12, .inl bd))]) (by rw [nCl_0]) ?_
      refine lp_mm1 mo e g1 w (mLay g nw) D M1 bt f gb bd n k h33 hn2 ?_ n 0 (Nat.zero_add _)
      refine zs_iconst (v := nI 0) dX13_more_51 (by decide) ?_
      refine zs_istore_n (lv' := [(2, .int (nI 0)), (0, .ref mo), (1, .int (nI k))]) dX13_more_52 (Nat.le_of_ble_eq_true rfl) rfl ?_
      refine zs_lv [1, 2, 0] rfl ?_
      refine lp_mm2 mo e g1 w (mLay g nw) D M1 bt f gb bd n k h33 hn2 (by omega) hR hD hk9 hft hfD ?_ k 0 (Nat.zero_add _)
      refine zs_aload_n dX13_more_81 rfl rfl ?_
      refine zs_aload_n dX13_more_82 rfl rfl ?_
      refine zs_get 0 dX13_more_83 zf_RX13_304 rfl (v := .int (nI (M1.1 33))) rfl ?_
      refine zs_as (y := nI n) (congrArg nI h33) ?_
      refine zs_put 0 dX13_more_86 zf_RX13_405 rfl (Nat.le_of_ble_eq_true rfl) (zPv_i _) ?_
      show zS _ _ _ _ _ _ [(mo, .inr (11, fMo e (mg (upd g1 55 (nI n)) M1.1) w)), ((e 14), .inl (0, 800, .inl (mLay g nw))), ((e 24), .inl (0, 12, .inl (nF (M1.2 24)))), ((e 25), .inl (0, 12, .inl (nF (M1.2 25)))), ((e 26), .inl (0, 12, .inl (nF (M1.2 26)))), ((e 27), .inl (0, 12, .inl (nF (M1.2 27)))), ((e 28), .inl (0, 360, .inl (nF (M1.2 28)))), ((e 29), .inl (0, 12, .inl (nF (M1.2 29)))), ((e 30), .inl (0, 12, .inl (nF (M1.2 30)))), ((e 31), .inl (0, 30, .inl (nF (M1.2 31)))), ((e 32), .inl (0, 12, .inl (nF (M1.2 32)))), ((e 1), .inl (0, 740, .inl (nF bt))), ((e 53), .inl (0, 12, .inl (nF (mBe D f gb n k)))), ((e 54), .inl (0, 12, .inl bd))]
      refine zs_iconst (v := nI 0) dX13_more_89 (by decide) ?_
      refine zs_istore_n (lv' := [(2, .int (nI 0)), (0, .ref mo), (1, .int (nI k))]) dX13_more_90 (Nat.le_of_ble_eq_true rfl) rfl ?_
      refine zs_lv [1, 2, 0] rfl ?_
      refine zs_eq (K' := [(mo, .inr (11, fMo e (mg (upd g1 55 (nI n)) M1.1) w)), ((e 14), .inl (0, 800, .inl (mLay g nw))), ((e 24), .inl (0, 12, .inl (nF (M1.2 24)))), ((e 25), .inl (0, 12, .inl (nF (M1.2 25)))), ((e 26), .inl (0, 12, .inl (nF (M1.2 26)))), ((e 27), .inl (0, 12, .inl (nF (M1.2 27)))), ((e 28), .inl (0, 360, .inl (nF (M1.2 28)))), ((e 29), .inl (0, 12, .inl (nF (M1.2 29)))), ((e 30), .inl (0, 12, .inl (nF (M1.2 30)))), ((e 31), .inl (0, 30, .inl (nF (M1.2 31)))), ((e 32), .inl (0, 12, .inl (nF (M1.2 32)))), ((e 1), .inl (0, 740, .inl (nF bt))), ((e 53), .inl (0, 12, .inl (nF (mBe D f gb n k)))), ((e 54), .inl (0, 12, .inl (pCl (nF (mBe D f gb n k)) bd 0)))]) (by rw [pCl_0]) ?_
      refine lp_mm3 mo e (upd g1 55 (nI n)) w (mLay g nw) D M1 bt f (mBe D f gb n k) bd n k h33 hn2 ?_ n 0 (Nat.zero_add _)
      refine zs_aload_n dX13_more_117 rfl rfl ?_
      refine zs_aload_n dX13_more_118 rfl rfl ?_
      refine zs_aload_n dX13_more_119 rfl rfl ?_
      refine zs_get 0 dX13_more_120 zf_RX13_304 rfl (v := .int (nI (M1.1 33))) rfl ?_
      refine zs_as (y := nI n) (congrArg nI h33) ?_
      refine zs_callV (M := mX13_longest) (As := [.int (nI n)]) (st := [.ref mo]) (Kc := [(mo, .inr (11, fMo e (mg (upd g1 55 (nI n)) M1.1) w)), ((e 14), .inl (0, 800, .inl (mLay g nw))), ((e 24), .inl (0, 12, .inl (nF (M1.2 24)))), ((e 25), .inl (0, 12, .inl (nF (M1.2 25)))), ((e 26), .inl (0, 12, .inl (nF (M1.2 26)))), ((e 27), .inl (0, 12, .inl (nF (M1.2 27)))), ((e 28), .inl (0, 360, .inl (nF (M1.2 28)))), ((e 29), .inl (0, 12, .inl (nF (M1.2 29)))), ((e 30), .inl (0, 12, .inl (nF (M1.2 30)))), ((e 31), .inl (0, 30, .inl (nF (M1.2 31)))), ((e 32), .inl (0, 12, .inl (nF (M1.2 32)))), ((e 53), .inl (0, 12, .inl (nF (mBe D f gb n k))))]) (Kr := [((e 1), .inl (0, 740, .inl (nF bt))), ((e 54), .inl (0, 12, .inl (pCl (nF (mBe D f gb n k)) bd n)))]) [0, 1, 2, 3, 4, 5, 6, 7, 8, 9, 10, 12] [11, 13] 0 dX13_more_123 zl_RX13_402 kX13_longest rfl rfl rfl rfl rfl (by decide) rfl rfl (show dd - 1 + 1 ≤ dd by omega) (Nat.zero_le _) (Nat.zero_le _) (Nat.le_of_ble_eq_true rfl) (s_mLongest l (dd - 1) mo e (upd g1 55 (nI n)) w (mLay g nw) D M1 f (mBe D f gb n k) n (by omega) hR hD hn2 hft hfD (fun p hp => by rw [mBe_p k p hp]; have := pOth_le (D := D) (f := f) (n := n) k p; omega)) (fun r K1 hr => ?_)
      obtain ⟨rfl, rfl⟩ := hr
      refine zs_K (K' := [(mo, .inr (11, fMo e (mg (upd g1 55 (nI n)) M1.1) w)), ((e 14), .inl (0, 800, .inl (mLay g nw))), ((e 24), .inl (0, 12, .inl (nF (M1.2 24)))), ((e 25), .inl (0, 12, .inl (nF (M1.2 25)))), ((e 26), .inl (0, 12, .inl (nF (M1.2 26)))), ((e 27), .inl (0, 12, .inl (nF (M1.2 27)))), ((e 28), .inl (0, 360, .inl (nF (M1.2 28)))), ((e 29), .inl (0, 12, .inl (nF (M1.2 29)))), ((e 30), .inl (0, 12, .inl (nF (M1.2 30)))), ((e 31), .inl (0, 30, .inl (nF (M1.2 31)))), ((e 32), .inl (0, 12, .inl (nF (M1.2 32)))), ((e 1), .inl (0, 740, .inl (nF bt))), ((e 53), .inl (0, 12, .inl (nF (mBe D f gb n k)))), ((e 54), .inl (0, 12, .inl (pCl (nF (mBe D f gb n k)) bd n)))]) [2, 3, 4, 5, 6, 7, 8, 9, 10, 11, 12, 0, 13, 1] rfl (by decide) ?_
      have hsl : pSl D f (mBe D f gb n k) n n < n := pSl_lt n (by omega)
      refine zs_aload_n dX13_more_126 rfl rfl ?_
      refine zs_get 0 dX13_more_127 zf_RX13_304 rfl (v := .int (nI (M1.1 33))) rfl ?_
      refine zs_as (y := nI n) (congrArg nI h33) ?_
      refine zs_callV (M := mX13_shared) (As := [.int (nI (pSl D f (mBe D f gb n k) n n)), .int (nI n)]) (st := []) (Kc := [(mo, .inr (11, fMo e (mg (upd g1 55 (nI n)) M1.1) w)), ((e 14), .inl (0, 800, .inl (mLay g nw))), ((e 24), .inl (0, 12, .inl (nF (M1.2 24)))), ((e 25), .inl (0, 12, .inl (nF (M1.2 25)))), ((e 26), .inl (0, 12, .inl (nF (M1.2 26)))), ((e 27), .inl (0, 12, .inl (nF (M1.2 27)))), ((e 28), .inl (0, 360, .inl (nF (M1.2 28)))), ((e 29), .inl (0, 12, .inl (nF (M1.2 29)))), ((e 30), .inl (0, 12, .inl (nF (M1.2 30)))), ((e 31), .inl (0, 30, .inl (nF (M1.2 31)))), ((e 32), .inl (0, 12, .inl (nF (M1.2 32)))), ((e 53), .inl (0, 12, .inl (nF (mBe D f gb n k))))]) (Kr := [((e 1), .inl (0, 740, .inl (nF bt))), ((e 54), .inl (0, 12, .inl (pCl (nF (mBe D f gb n k)) bd n)))]) [0, 1, 2, 3, 4, 5, 6, 7, 8, 9, 10, 12] [11, 13] 0 dX13_more_130 zl_RX13_399 kX13_shared rfl rfl rfl rfl rfl (by decide) rfl rfl (show dd - 1 + 1 ≤ dd by omega) (Nat.zero_le _) (Nat.zero_le _) (Nat.le_of_ble_eq_true rfl) (s_mShared l (dd - 1) mo e (upd g1 55 (nI n)) w (mLay g nw) D M1 f (mBe D f gb n k) n (pSl D f (mBe D f gb n k) n n) (by omega) hR hD hn2 hft hfD (fun p hp => by rw [mBe_p k p hp]; have := pOth_le (D := D) (f := f) (n := n) k p; omega) (by omega)) (fun r K1 hr => ?_)
      obtain ⟨rfl, rfl⟩ := hr
      refine zs_K (K' := [(mo, .inr (11, fMo e (mg (upd g1 55 (nI n)) M1.1) w)), ((e 14), .inl (0, 800, .inl (mLay g nw))), ((e 24), .inl (0, 12, .inl (nF (M1.2 24)))), ((e 25), .inl (0, 12, .inl (nF (M1.2 25)))), ((e 26), .inl (0, 12, .inl (nF (M1.2 26)))), ((e 27), .inl (0, 12, .inl (nF (M1.2 27)))), ((e 28), .inl (0, 360, .inl (nF (M1.2 28)))), ((e 29), .inl (0, 12, .inl (nF (M1.2 29)))), ((e 30), .inl (0, 12, .inl (nF (M1.2 30)))), ((e 31), .inl (0, 30, .inl (nF (M1.2 31)))), ((e 32), .inl (0, 12, .inl (nF (M1.2 32)))), ((e 1), .inl (0, 740, .inl (nF bt))), ((e 53), .inl (0, 12, .inl (nF (mBe D f gb n k)))), ((e 54), .inl (0, 12, .inl (pCl (nF (mBe D f gb n k)) bd n)))]) [2, 3, 4, 5, 6, 7, 8, 9, 10, 11, 12, 0, 13, 1] rfl (by decide) ?_
      have hsle := pSl_c (D := D) (f := f) n (Nat.le_refl n) (mBe_p k (D := D) (f := f) (gb := gb) (n := n))
      have hval : nSh D f (mBe D f gb n k) n (pSl D f (mBe D f gb n k) n n) = nSh D f (pOth D f n k) n (pSl D f (pOth D f n k) n n) := by
        rw [hsle]
        exact nSh_c (mBe_p k _ (pSl_lt n (by omega)))
      exact zs_iret dX13_more_133 rfl (Or.inr ⟨k, hk9, rfl, by rw [hmn]; omega, by rw [hval], upd g1 55 (nI n), M1, (mBe D f gb n k), pCl (nF (mBe D f gb n k)) bd n, mFr_u (mFr_t (mFr_u mFr_r (by decide) : mFr [0] g (upd g 0 (nI 0))) hfr1 (U := [0, 2, 22, 33, 34, 35, 36, 37, 38, 39, 40, 41, 42, 55]) (by decide) (by decide)) (by decide), hfr1 0 (by decide), h2_1, h22_1, ⟨rfl, fun p hp => (if_pos hp).trans (congrArg nI (mBe_p k p hp))⟩, rfl⟩)
    · have hout : x < 0 ∨ nI 9 < x := by
        have h := of_decide_eq_false (bI_f c_2)
        by_cases q : x < 0
        · exact Or.inl q
        · exact Or.inr (Decidable.byContradiction (fun q2 => h ⟨q, q2⟩))
      refine zs_iconst (v := (-1)) dX13_more_26 (by decide) ?_
      exact zs_iret dX13_more_27 rfl (Or.inl ⟨Or.inr hout, rfl, g1, M1, (mFr_t (mFr_u mFr_r (by decide) : mFr [0] g (upd g 0 (nI 0))) hfr1 (U := [0, 2, 22, 33, 34, 35, 36, 37, 38, 39, 40, 41, 42, 55]) (by decide) (by decide)), hfr1 0 (by decide), h2_1, h22_1, hfr1 55 (by decide), rfl⟩)
  · refine zs_K (K' := [(mo, .inr (11, fMo e (mg g1 M1.1) w)), ((e 14), .inl (0, 800, .inl (mLay g nw))), ((e 24), .inl (0, 12, .inl (nF (M1.2 24)))), ((e 25), .inl (0, 12, .inl (nF (M1.2 25)))), ((e 26), .inl (0, 12, .inl (nF (M1.2 26)))), ((e 27), .inl (0, 12, .inl (nF (M1.2 27)))), ((e 28), .inl (0, 360, .inl (nF (M1.2 28)))), ((e 29), .inl (0, 12, .inl (nF (M1.2 29)))), ((e 30), .inl (0, 12, .inl (nF (M1.2 30)))), ((e 31), .inl (0, 30, .inl (nF (M1.2 31)))), ((e 32), .inl (0, 12, .inl (nF (M1.2 32)))), ((e 1), .inl (0, 740, .inl (nF bt))), ((e 53), .inl (0, 12, .inl (nF gb))), ((e 54), .inl (0, 12, .inl bd))]) [2, 3, 4, 5, 6, 7, 8, 9, 10, 11, 12, 13, 0, 1] rfl (by decide) ?_
    refine zs_if_eq (tgt := 26) dX13_more_13 (by decide) (fun c_3 => ?_) (fun c_3 => (by first | exact absurd c_3 (by decide) | exact absurd (by decide) c_3 : False).elim)
    refine zs_iconst (v := (-1)) dX13_more_26 (by decide) ?_
    exact zs_iret dX13_more_27 rfl (Or.inl ⟨Or.inl ((pMn_0 (by decide)).mpr htd), rfl, g1, M1, (mFr_t (mFr_u mFr_r (by decide) : mFr [0] g (upd g 0 (nI 0))) hfr1 (U := [0, 2, 22, 33, 34, 35, 36, 37, 38, 39, 40, 41, 42, 55]) (by decide) (by decide)), hfr1 0 (by decide), h2_1, h22_1, hfr1 55 (by decide), rfl⟩)
set_option maxRecDepth 100000 in
theorem s_mMoreAt (l : Launch) (dd : Nat) (mo : Nat) (e : Nat → Nat) (g : Nat → Int32) (w : Int64) (f : Nat → Nat) (n : Nat) (bd : Nat → Int32) (x : Int32) (hn : n ≤ 12) (hli : mLi f n bd (g 55)) : zSp l mX13_moreAt dd 0 0 [.ref mo, .int x] [(mo, .inr (11, fMo e g w)), ((e 54), .inl (0, 12, .inl bd))] (fun r K' => r = some (.int (pEy f n x)) ∧ K' = [(mo, .inr (11, fMo e (upd g 0 (nI 0)) w)), ((e 54), .inl (0, 12, .inl bd))]) := by
  refine zSp.of (by decide) (Nat.le_of_ble_eq_true rfl) (fun h0 => ?_)
  show zS _ 0 0 0 [(0, .ref mo), (1, .int x)] [] [(mo, .inr (11, fMo e g w)), ((e 54), .inl (0, 12, .inl bd))]
  refine zs_aload_n dX13_moreAt_0 rfl rfl ?_
  refine zs_iconst (v := nI 0) dX13_moreAt_1 (by decide) ?_
  refine zs_put 0 dX13_moreAt_2 zf_RX13_148 rfl (Nat.le_of_ble_eq_true rfl) (zPv_i _) ?_
  show zS _ _ _ _ _ _ [(mo, .inr (11, fMo e (upd g 0 (nI 0)) w)), ((e 54), .inl (0, 12, .inl bd))]
  refine zs_iload_n dX13_moreAt_5 rfl ?_
  refine zs_if_lt (tgt := 26) dX13_moreAt_6 (by decide) (fun c_1 => ?_) (fun c_1 => ?_)
  · refine zs_iconst (v := (-1)) dX13_moreAt_26 (by decide) ?_
    exact zs_iret dX13_moreAt_27 rfl ⟨by rw [pEy, if_pos c_1], rfl⟩
  · have hneg := c_1
    refine zs_iload_n dX13_moreAt_9 rfl ?_
    refine zs_aload_n dX13_moreAt_10 rfl rfl ?_
    refine zs_get 0 dX13_moreAt_11 zf_RX13_405 rfl (v := .int (g 55)) rfl ?_
    refine zs_as (y := nI n) hli.1 ?_
    refine zs_icmp_ge (tgt := 26) dX13_moreAt_14 (by decide) (fun c_2 => ?_) (fun c_2 => ?_)
    · have hge : ¬ x < nI n := Int32.not_lt.mpr c_2
      refine zs_iconst (v := (-1)) dX13_moreAt_26 (by decide) ?_
      exact zs_iret dX13_moreAt_27 rfl ⟨by rw [pEy, if_neg c_1, if_neg hge], rfl⟩
    · have hlt : x < nI n := Int32.not_le.mp c_2
      obtain ⟨j, hj, rfl⟩ := zi_nn hneg
      have hj2 : j < n := by have h := hlt; rw [nI_lt' (by omega) (by omega)] at h; exact h
      refine zs_aload_n dX13_moreAt_17 rfl rfl ?_
      refine zs_get 0 dX13_moreAt_18 zf_RX13_87 rfl (v := .ref (e 54)) rfl ?_
      refine zs_iload_n dX13_moreAt_21 rfl ?_
      refine zs_iald 1 dX13_moreAt_22 rfl (vp_in_nI (by omega) (by omega)) ?_
      refine zs_as (y := bd j) (by rw [nI_c (n := j) (by omega)]) ?_
      refine zs_goto (tgt := 27) dX13_moreAt_23 (by decide) ?_
      exact zs_iret dX13_moreAt_27 rfl ⟨by rw [pEy, if_neg c_1, if_pos hlt, nI_c (by omega), hli.2 j hj2], rfl⟩
theorem dX13_bestAt_0 : decode cX13_bestAt 0 = .ok (.aload_n 0, 1) := by decide +kernel
theorem dX13_bestAt_1 : decode cX13_bestAt 1 = .ok (.iconst 0, 1) := by decide +kernel
theorem dX13_bestAt_2 : decode cX13_bestAt 2 = .ok (.putfield 148, 3) := by decide +kernel
theorem dX13_bestAt_5 : decode cX13_bestAt 5 = .ok (.iload_n 1, 1) := by decide +kernel
theorem dX13_bestAt_6 : decode cX13_bestAt 6 = .ok (.ifCond .lt 20, 3) := by decide +kernel
theorem dX13_bestAt_9 : decode cX13_bestAt 9 = .ok (.iload_n 1, 1) := by decide +kernel
theorem dX13_bestAt_10 : decode cX13_bestAt 10 = .ok (.aload_n 0, 1) := by decide +kernel
theorem dX13_bestAt_11 : decode cX13_bestAt 11 = .ok (.getfield 396, 3) := by decide +kernel
theorem dX13_bestAt_14 : decode cX13_bestAt 14 = .ok (.if_icmp .ge 12, 3) := by decide +kernel
theorem dX13_bestAt_17 : decode cX13_bestAt 17 = .ok (.aload_n 0, 1) := by decide +kernel
theorem dX13_bestAt_18 : decode cX13_bestAt 18 = .ok (.getfield 81, 3) := by decide +kernel
theorem dX13_bestAt_21 : decode cX13_bestAt 21 = .ok (.iload_n 1, 1) := by decide +kernel
theorem dX13_bestAt_22 : decode cX13_bestAt 22 = .ok (.iaload, 1) := by decide +kernel
theorem dX13_bestAt_23 : decode cX13_bestAt 23 = .ok (.goto 4, 3) := by decide +kernel
theorem dX13_bestAt_26 : decode cX13_bestAt 26 = .ok (.iconst (-1), 1) := by decide +kernel
theorem dX13_bestAt_27 : decode cX13_bestAt 27 = .ok (.ireturn, 1) := by decide +kernel
set_option maxRecDepth 100000 in
theorem s_mBestAt (l : Launch) (dd : Nat) (mo : Nat) (e : Nat → Nat) (g : Nat → Int32) (w : Int64) (f : Nat → Nat) (n : Nat) (bd : Nat → Int32) (x : Int32) (hn : n ≤ 7) (hli : mLi f n bd (g 51)) : zSp l mX13_bestAt dd 0 0 [.ref mo, .int x] [(mo, .inr (11, fMo e g w)), ((e 49), .inl (0, 7, .inl bd))] (fun r K' => r = some (.int (pEy f n x)) ∧ K' = [(mo, .inr (11, fMo e (upd g 0 (nI 0)) w)), ((e 49), .inl (0, 7, .inl bd))]) := by
  refine zSp.of (by decide) (Nat.le_of_ble_eq_true rfl) (fun h0 => ?_)
  show zS _ 0 0 0 [(0, .ref mo), (1, .int x)] [] [(mo, .inr (11, fMo e g w)), ((e 49), .inl (0, 7, .inl bd))]
  refine zs_aload_n dX13_bestAt_0 rfl rfl ?_
  refine zs_iconst (v := nI 0) dX13_bestAt_1 (by decide) ?_
  refine zs_put 0 dX13_bestAt_2 zf_RX13_148 rfl (Nat.le_of_ble_eq_true rfl) (zPv_i _) ?_
  show zS _ _ _ _ _ _ [(mo, .inr (11, fMo e (upd g 0 (nI 0)) w)), ((e 49), .inl (0, 7, .inl bd))]
  refine zs_iload_n dX13_bestAt_5 rfl ?_
  refine zs_if_lt (tgt := 26) dX13_bestAt_6 (by decide) (fun c_1 => ?_) (fun c_1 => ?_)
  · refine zs_iconst (v := (-1)) dX13_bestAt_26 (by decide) ?_
    exact zs_iret dX13_bestAt_27 rfl ⟨by rw [pEy, if_pos c_1], rfl⟩
  · have hneg := c_1
    refine zs_iload_n dX13_bestAt_9 rfl ?_
    refine zs_aload_n dX13_bestAt_10 rfl rfl ?_
    refine zs_get 0 dX13_bestAt_11 zf_RX13_396 rfl (v := .int (g 51)) rfl ?_
    refine zs_as (y := nI n) hli.1 ?_
    refine zs_icmp_ge (tgt := 26) dX13_bestAt_14 (by decide) (fun c_2 => ?_) (fun c_2 => ?_)
    · have hge : ¬ x < nI n := Int32.not_lt.mpr c_2
      refine zs_iconst (v := (-1)) dX13_bestAt_26 (by decide) ?_
      exact zs_iret dX13_bestAt_27 rfl ⟨by rw [pEy, if_neg c_1, if_neg hge], rfl⟩
    · have hlt : x < nI n := Int32.not_le.mp c_2
      obtain ⟨j, hj, rfl⟩ := zi_nn hneg
      have hj2 : j < n := by have h := hlt; rw [nI_lt' (by omega) (by omega)] at h; exact h
      refine zs_aload_n dX13_bestAt_17 rfl rfl ?_
      refine zs_get 0 dX13_bestAt_18 zf_RX13_81 rfl (v := .ref (e 49)) rfl ?_
      refine zs_iload_n dX13_bestAt_21 rfl ?_
      refine zs_iald 1 dX13_bestAt_22 rfl (vp_in_nI (by omega) (by omega)) ?_
      refine zs_as (y := bd j) (by rw [nI_c (n := j) (by omega)]) ?_
      refine zs_goto (tgt := 27) dX13_bestAt_23 (by decide) ?_
      exact zs_iret dX13_bestAt_27 rfl ⟨by rw [pEy, if_neg c_1, if_pos hlt, nI_c (by omega), hli.2 j hj2], rfl⟩
theorem dX13_hookAt_0 : decode cX13_hookAt 0 = .ok (.aload_n 0, 1) := by decide +kernel
theorem dX13_hookAt_1 : decode cX13_hookAt 1 = .ok (.iconst 0, 1) := by decide +kernel
theorem dX13_hookAt_2 : decode cX13_hookAt 2 = .ok (.putfield 148, 3) := by decide +kernel
theorem dX13_hookAt_5 : decode cX13_hookAt 5 = .ok (.iload_n 1, 1) := by decide +kernel
theorem dX13_hookAt_6 : decode cX13_hookAt 6 = .ok (.ifCond .lt 20, 3) := by decide +kernel
theorem dX13_hookAt_9 : decode cX13_hookAt 9 = .ok (.iload_n 1, 1) := by decide +kernel
theorem dX13_hookAt_10 : decode cX13_hookAt 10 = .ok (.aload_n 0, 1) := by decide +kernel
theorem dX13_hookAt_11 : decode cX13_hookAt 11 = .ok (.getfield 420, 3) := by decide +kernel
theorem dX13_hookAt_14 : decode cX13_hookAt 14 = .ok (.if_icmp .ge 12, 3) := by decide +kernel
theorem dX13_hookAt_17 : decode cX13_hookAt 17 = .ok (.aload_n 0, 1) := by decide +kernel
theorem dX13_hookAt_18 : decode cX13_hookAt 18 = .ok (.getfield 102, 3) := by decide +kernel
theorem dX13_hookAt_21 : decode cX13_hookAt 21 = .ok (.iload_n 1, 1) := by decide +kernel
theorem dX13_hookAt_22 : decode cX13_hookAt 22 = .ok (.iaload, 1) := by decide +kernel
theorem dX13_hookAt_23 : decode cX13_hookAt 23 = .ok (.goto 4, 3) := by decide +kernel
theorem dX13_hookAt_26 : decode cX13_hookAt 26 = .ok (.iconst (-1), 1) := by decide +kernel
theorem dX13_hookAt_27 : decode cX13_hookAt 27 = .ok (.ireturn, 1) := by decide +kernel
set_option maxRecDepth 100000 in
theorem s_mHookAt (l : Launch) (dd : Nat) (mo : Nat) (e : Nat → Nat) (g : Nat → Int32) (w : Int64) (f : Nat → Nat) (n : Nat) (bd : Nat → Int32) (x : Int32) (hn : n ≤ 6) (hli : mLi f n bd (g 63)) : zSp l mX13_hookAt dd 0 0 [.ref mo, .int x] [(mo, .inr (11, fMo e g w)), ((e 60), .inl (0, 6, .inl bd))] (fun r K' => r = some (.int (pEy f n x)) ∧ K' = [(mo, .inr (11, fMo e (upd g 0 (nI 0)) w)), ((e 60), .inl (0, 6, .inl bd))]) := by
  refine zSp.of (by decide) (Nat.le_of_ble_eq_true rfl) (fun h0 => ?_)
  show zS _ 0 0 0 [(0, .ref mo), (1, .int x)] [] [(mo, .inr (11, fMo e g w)), ((e 60), .inl (0, 6, .inl bd))]
  refine zs_aload_n dX13_hookAt_0 rfl rfl ?_
  refine zs_iconst (v := nI 0) dX13_hookAt_1 (by decide) ?_
  refine zs_put 0 dX13_hookAt_2 zf_RX13_148 rfl (Nat.le_of_ble_eq_true rfl) (zPv_i _) ?_
  show zS _ _ _ _ _ _ [(mo, .inr (11, fMo e (upd g 0 (nI 0)) w)), ((e 60), .inl (0, 6, .inl bd))]
  refine zs_iload_n dX13_hookAt_5 rfl ?_
  refine zs_if_lt (tgt := 26) dX13_hookAt_6 (by decide) (fun c_1 => ?_) (fun c_1 => ?_)
  · refine zs_iconst (v := (-1)) dX13_hookAt_26 (by decide) ?_
    exact zs_iret dX13_hookAt_27 rfl ⟨by rw [pEy, if_pos c_1], rfl⟩
  · have hneg := c_1
    refine zs_iload_n dX13_hookAt_9 rfl ?_
    refine zs_aload_n dX13_hookAt_10 rfl rfl ?_
    refine zs_get 0 dX13_hookAt_11 zf_RX13_420 rfl (v := .int (g 63)) rfl ?_
    refine zs_as (y := nI n) hli.1 ?_
    refine zs_icmp_ge (tgt := 26) dX13_hookAt_14 (by decide) (fun c_2 => ?_) (fun c_2 => ?_)
    · have hge : ¬ x < nI n := Int32.not_lt.mpr c_2
      refine zs_iconst (v := (-1)) dX13_hookAt_26 (by decide) ?_
      exact zs_iret dX13_hookAt_27 rfl ⟨by rw [pEy, if_neg c_1, if_neg hge], rfl⟩
    · have hlt : x < nI n := Int32.not_le.mp c_2
      obtain ⟨j, hj, rfl⟩ := zi_nn hneg
      have hj2 : j < n := by have h := hlt; rw [nI_lt' (by omega) (by omega)] at h; exact h
      refine zs_aload_n dX13_hookAt_17 rfl rfl ?_
      refine zs_get 0 dX13_hookAt_18 zf_RX13_102 rfl (v := .ref (e 60)) rfl ?_
      refine zs_iload_n dX13_hookAt_21 rfl ?_
      refine zs_iald 1 dX13_hookAt_22 rfl (vp_in_nI (by omega) (by omega)) ?_
      refine zs_as (y := bd j) (by rw [nI_c (n := j) (by omega)]) ?_
      refine zs_goto (tgt := 27) dX13_hookAt_23 (by decide) ?_
      exact zs_iret dX13_hookAt_27 rfl ⟨by rw [pEy, if_neg c_1, if_pos hlt, nI_c (by omega), hli.2 j hj2], rfl⟩
