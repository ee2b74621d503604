/-! ===== the reference: yard() ===== -/
/-- new words before place k, old from it on -/
def pCw (new old : Nat → Int64) (k : Nat) : Nat → Int64 := fun j => if j < k then new j else old j
theorem pCw_0 (new old : Nat → Int64) : pCw new old 0 = old := by funext j; exact if_neg (Nat.not_lt_zero j)
theorem pCw_u {new old : Nat → Int64} {k : Nat} {v : Int64} (h : v = new k) : vp_updL (pCw new old k) k v = pCw new old (k + 1) := by
  funext j
  unfold vp_updL pCw
  by_cases h1 : j = k
  · rw [if_pos h1, if_pos (by omega), h, h1]
  · rw [if_neg h1]
    by_cases h2 : j < k
    · rw [if_pos h2, if_pos (by omega)]
    · rw [if_neg h2, if_neg (by omega)]
theorem yR_o {D : zYd} {f f' : Nat → Int32} (h0 : D.1 0 ≤ 12) (h : yR D f) (hf : ∀ j, j < 200 → f' j = f j) : yR D f' := by
  obtain ⟨a0, a1, a2, a3, a4, a5, a6, a7, a8, a9, a10, a11, a12, a13⟩ := h
  refine ⟨(hf _ (by decide)).trans a0, (hf _ (by decide)).trans a1, (hf _ (by decide)).trans a2, (hf _ (by decide)).trans a3, (hf _ (by decide)).trans a4, (hf _ (by decide)).trans a5, (hf _ (by decide)).trans a6, (hf _ (by decide)).trans a7, (hf _ (by decide)).trans a8, (hf _ (by decide)).trans a9, (hf _ (by decide)).trans a10, (hf _ (by decide)).trans a11, fun m hm => ?_, fun c hc => ?_⟩
  · have h1 := a12 m hm
    exact ⟨(hf _ (by omega)).trans h1.1, (hf _ (by omega)).trans h1.2.1, (hf _ (by omega)).trans h1.2.2⟩
  · have h1 := a13 c hc
    exact ⟨(hf _ (by omega)).trans h1.1, (hf _ (by omega)).trans h1.2⟩
set_option maxRecDepth 100000 in
theorem lp_mcy {l : Launch} {dd : Nat} {Po : zPo} {K0 : zK} {h0 : List va_E} {Xo : zK → Prop} {Gc : zG → Prop} (mo : Nat) (e : Nat → Nat) (bt : Nat → Nat) (nw : Nat → Int32) (nm : Nat → Int64) (g : Nat → Int32) (w : Int64) (rf : Nat → Int32) (rn : Nat → Int64) (x : Nat) 
    (hk : zS (l, mX13_yard, dd, Po, K0, h0, Xo, Gc) 0 0 75 [(0, .ref mo), (1, .int (nI x))] [] [(mo, .inr (11, fMo e g w)), ((e 1), .inl (0, 740, .inl (nF bt))), ((e 15), .inl (0, 200, .inl rf)), ((e 19), .inl (2, 12, .inr (.inl rn))), ((e 14), .inl (0, 800, .inl (pCl rf nw 200))), ((e 18), .inl (2, 12, .inr (.inl nm)))]) :
    ∀ (m i : Nat) , i + m = 200 → zS (l, mX13_yard, dd, Po, K0, h0, Xo, Gc) 0 0 50 [(0, .ref mo), (1, .int (nI x)), (2, .int (nI i))] [] [(mo, .inr (11, fMo e g w)), ((e 1), .inl (0, 740, .inl (nF bt))), ((e 15), .inl (0, 200, .inl rf)), ((e 19), .inl (2, 12, .inr (.inl rn))), ((e 14), .inl (0, 800, .inl (pCl rf nw i))), ((e 18), .inl (2, 12, .inr (.inl nm)))] := by
  intro m
  induction m with
  | zero =>
    intro i hi
    refine zs_iload_n dX13_yard_50 rfl ?_
    refine zs_sipush (v := nI 200) dX13_yard_51 (by decide) ?_
    refine zs_icmp_ge (tgt := 75) dX13_yard_54 (by decide) (fun c_1 => ?_) (fun c_1 => (c_1 (by rw [show i = 200 by omega]; exact Int32.le_refl _) : False).elim)
    rw [show i = 200 by omega]
    refine zs_lv [0, 1] rfl ?_
    exact hk
  | succ m ih =>
    intro i hi
    refine zs_iload_n dX13_yard_50 rfl ?_
    refine zs_sipush (v := nI 200) dX13_yard_51 (by decide) ?_
    refine zs_icmp_ge (tgt := 75) dX13_yard_54 (by decide) (fun c_1 => (nI_ge (show i < 200 by omega) (by omega) c_1 : False).elim) (fun c_1 => ?_)
    refine zs_aload_n dX13_yard_57 rfl rfl ?_
    refine zs_get 0 dX13_yard_58 zf_RX13_13 rfl (v := .ref (e 14)) rfl ?_
    refine zs_iload_n dX13_yard_61 rfl ?_
    refine zs_aload_n dX13_yard_62 rfl rfl ?_
    refine zs_get 0 dX13_yard_63 zf_RX13_16 rfl (v := .ref (e 15)) rfl ?_
    refine zs_iload_n dX13_yard_66 rfl ?_
    refine zs_iald 2 dX13_yard_67 rfl (vp_in_nI (by omega) (by omega)) ?_
    refine zs_as (y := rf i) (by rw [nI_c (n := i) (by omega)]) ?_
    refine zs_iast 4 dX13_yard_68 rfl (vp_in_nI (by omega) (by omega)) ?_
    rw [nI_c (n := i) (by omega)]
    rw [pCl_u (new := rf) (old := nw) (k := i) rfl]
    show zS _ _ _ _ _ _ [(mo, .inr (11, fMo e g w)), ((e 1), .inl (0, 740, .inl (nF bt))), ((e 15), .inl (0, 200, .inl rf)), ((e 19), .inl (2, 12, .inr (.inl rn))), ((e 14), .inl (0, 800, .inl (pCl rf nw (i + 1)))), ((e 18), .inl (2, 12, .inr (.inl nm)))]
    refine zs_iinc (v := (nI (i + 1))) (lv' := [(2, .int (nI (i + 1))), (0, .ref mo), (1, .int (nI x))]) dX13_yard_69 rfl (nI_add _ 1) (Nat.le_of_ble_eq_true rfl) rfl ?_
    refine zs_goto (tgt := 50) dX13_yard_72 (by decide) ?_
    refine zs_lv [1, 2, 0] rfl ?_
    exact ih (i + 1) (by omega)
set_option maxRecDepth 100000 in
theorem lp_mcn {l : Launch} {dd : Nat} {Po : zPo} {K0 : zK} {h0 : List va_E} {Xo : zK → Prop} {Gc : zG → Prop} (mo : Nat) (e : Nat → Nat) (bt : Nat → Nat) (nw : Nat → Int32) (nm : Nat → Int64) (g : Nat → Int32) (w : Int64) (rf : Nat → Int32) (rn : Nat → Int64) (x : Nat) 
    (hk : zS (l, mX13_yard, dd, Po, K0, h0, Xo, Gc) 0 0 101 [(0, .ref mo), (1, .int (nI x))] [] [(mo, .inr (11, fMo e g w)), ((e 1), .inl (0, 740, .inl (nF bt))), ((e 15), .inl (0, 200, .inl rf)), ((e 19), .inl (2, 12, .inr (.inl rn))), ((e 14), .inl (0, 800, .inl nw)), ((e 18), .inl (2, 12, .inr (.inl (pCw rn nm 12))))]) :
    ∀ (m i : Nat) , i + m = 12 → zS (l, mX13_yard, dd, Po, K0, h0, Xo, Gc) 0 0 77 [(0, .ref mo), (1, .int (nI x)), (2, .int (nI i))] [] [(mo, .inr (11, fMo e g w)), ((e 1), .inl (0, 740, .inl (nF bt))), ((e 15), .inl (0, 200, .inl rf)), ((e 19), .inl (2, 12, .inr (.inl rn))), ((e 14), .inl (0, 800, .inl nw)), ((e 18), .inl (2, 12, .inr (.inl (pCw rn nm i))))] := by
  intro m
  induction m with
  | zero =>
    intro i hi
    refine zs_iload_n dX13_yard_77 rfl ?_
    refine zs_bipush (v := nI 12) dX13_yard_78 (by decide) ?_
    refine zs_icmp_ge (tgt := 101) dX13_yard_80 (by decide) (fun c_1 => ?_) (fun c_1 => (c_1 (by rw [show i = 12 by omega]; exact Int32.le_refl _) : False).elim)
    rw [show i = 12 by omega]
    refine zs_lv [0, 1] rfl ?_
    exact hk
  | succ m ih =>
    intro i hi
    refine zs_iload_n dX13_yard_77 rfl ?_
    refine zs_bipush (v := nI 12) dX13_yard_78 (by decide) ?_
    refine zs_icmp_ge (tgt := 101) dX13_yard_80 (by decide) (fun c_1 => (nI_ge (show i < 12 by omega) (by omega) c_1 : False).elim) (fun c_1 => ?_)
    refine zs_aload_n dX13_yard_83 rfl rfl ?_
    refine zs_get 0 dX13_yard_84 zf_RX13_25 rfl (v := .ref (e 18)) rfl ?_
    refine zs_iload_n dX13_yard_87 rfl ?_
    refine zs_aload_n dX13_yard_88 rfl rfl ?_
    refine zs_get 0 dX13_yard_89 zf_RX13_29 rfl (v := .ref (e 19)) rfl ?_
    refine zs_iload_n dX13_yard_92 rfl ?_
    refine zs_lald 3 dX13_yard_93 rfl (vp_in_nI (by omega) (by omega)) ?_
    rw [nI_c (n := i) (by omega)]
    refine zs_last 5 dX13_yard_94 rfl (vp_in_nI (by omega) (by omega)) ?_
    rw [nI_c (n := i) (by omega)]
    rw [pCw_u (new := rn) (old := nm) (k := i) rfl]
    show zS _ _ _ _ _ _ [(mo, .inr (11, fMo e g w)), ((e 1), .inl (0, 740, .inl (nF bt))), ((e 15), .inl (0, 200, .inl rf)), ((e 19), .inl (2, 12, .inr (.inl rn))), ((e 14), .inl (0, 800, .inl nw)), ((e 18), .inl (2, 12, .inr (.inl (pCw rn nm (i + 1)))))]
    refine zs_iinc (v := (nI (i + 1))) (lv' := [(2, .int (nI (i + 1))), (0, .ref mo), (1, .int (nI x))]) dX13_yard_95 rfl (nI_add _ 1) (Nat.le_of_ble_eq_true rfl) rfl ?_
    refine zs_goto (tgt := 77) dX13_yard_98 (by decide) ?_
    refine zs_lv [1, 2, 0] rfl ?_
    exact ih (i + 1) (by omega)
/-- the reference's standing yard -/
def mYd (D : zYd) (nw : Nat → Int32) (nm : Nat → Int64) : Prop := yR D nw ∧ ∀ j, j < D.1 0 → nm j = nL (D.2.2.1 j)
set_option maxRecDepth 100000 in
theorem s_mYard (l : Launch) (dd : Nat) (mo : Nat) (e : Nat → Nat) (g : Nat → Int32) (w : Int64) (n L : Nat) (bt : Nat → Nat) (v tk : Nat) (D2 : zYd) (nw : Nat → Int32) (nm : Nat → Int64) (rf : Nat → Int32) (rn : Nat → Int64) (hd : 7 ≤ dd) (hn : n ≤ 740) (hL : L = 700) (hbt : ∀ j, bt j < 256) (hb : g 22 = 0 ∨ g 22 = 1) (h2 : g 2 = nI n) (htk : tk ≤ 99999999) (hD2 : yI D2) : zSp l mX13_yard dd 0 0 [.ref mo] [(mo, .inr (11, fMo e g w)), ((e 1), .inl (0, 740, .inl (nF bt))), ((e 15), .inl (0, 200, .inl rf)), ((e 19), .inl (2, 12, .inr (.inl rn))), ((e 14), .inl (0, 800, .inl nw)), ((e 18), .inl (2, 12, .inr (.inl nm)))] (fun r K' => ((pLines bt n L 700 (nxt bt n L (0, 0, 0, v, none)) tk (yClr D2) 0).1.1 = 0 ∧ r = some (.int (nI (pLines bt n L 700 (nxt bt n L (0, 0, 0, v, none)) tk (yClr D2) 0).2)) ∧ ∃ g' w' nw' nm' rf' rn', mFr [0, 2, 3, 4, 5, 6, 7, 8, 9, 10, 11, 13, 22, 23] g g' ∧ (g' 0 = nI 0 ∧ g' 2 = nI 0 ∧ g' 10 = nI 0 ∧ g' 22 = 1) ∧ mYd (pLines bt n L 700 (nxt bt n L (0, 0, 0, v, none)) tk (yClr D2) 0).1.2.2.2 nw' nm' ∧ nw' 200 = nI 0 ∧ nw' 540 = nI 0 ∧ K' = [(mo, .inr (11, fMo e g' w')), ((e 1), .inl (0, 740, .inl (nF bt))), ((e 15), .inl (0, 200, .inl (rf'))), ((e 19), .inl (2, 12, .inr (.inl (rn')))), ((e 14), .inl (0, 800, .inl (nw'))), ((e 18), .inl (2, 12, .inr (.inl (nm'))))]) ∨ (¬ (pLines bt n L 700 (nxt bt n L (0, 0, 0, v, none)) tk (yClr D2) 0).1.1 = 0 ∧ r = some (.int (-1 - nI (pLines bt n L 700 (nxt bt n L (0, 0, 0, v, none)) tk (yClr D2) 0).1.2.1.2.1)) ∧ ∃ g' w' rf' rn', mFr [0, 2, 3, 4, 5, 6, 7, 8, 9, 10, 11, 13, 22, 23] g g' ∧ (g' 0 = nI 0 ∧ g' 2 = nI 0 ∧ g' 10 = nI (pLines bt n L 700 (nxt bt n L (0, 0, 0, v, none)) tk (yClr D2) 0).1.1 ∧ g' 22 = 1) ∧ K' = [(mo, .inr (11, fMo e g' w')), ((e 1), .inl (0, 740, .inl (nF bt))), ((e 15), .inl (0, 200, .inl (rf'))), ((e 19), .inl (2, 12, .inr (.inl (rn')))), ((e 14), .inl (0, 800, .inl (mLay g nw))), ((e 18), .inl (2, 12, .inr (.inl nm)))])) := by
  refine zSp.of (by decide) (Nat.le_of_ble_eq_true rfl) (fun h0 => ?_)
  show zS _ 0 0 0 [(0, .ref mo)] [] [(mo, .inr (11, fMo e g w)), ((e 1), .inl (0, 740, .inl (nF bt))), ((e 15), .inl (0, 200, .inl rf)), ((e 19), .inl (2, 12, .inr (.inl rn))), ((e 14), .inl (0, 800, .inl nw)), ((e 18), .inl (2, 12, .inr (.inl nm)))]
  have hI : yI (yClr D2) := yClr_I hD2.2.2.2.1 hD2.2.2.2.2.1 hD2.2.2.2.2.2.1 hD2.2.2.2.2.2.2.2.1
  have hJ := pLines_J (L := L) hbt hn 700 (nxt bt n L (0, 0, 0, v, none)) tk (yClr D2) 0 (nxt_OK hbt hn) htk hI
  have hM : (nxt bt n L (0, 0, 0, v, none)).1 = 0 ∨ (0 ≤ (nxt bt n L (0, 0, 0, v, none)).2.1 ∧ (nxt bt n L (0, 0, 0, v, none)).2.1 < min n L) := by
    by_cases hz : (nxt bt n L (0, 0, 0, v, none)).1 = 0
    · exact Or.inl hz
    · exact Or.inr ⟨Nat.zero_le _, (nxt_b hz).2.2⟩
  refine zs_aload_n dX13_yard_0 rfl rfl ?_
  refine zs_sipush (v := nI 700) dX13_yard_1 (by decide) ?_
  refine zs_as (y := nI L) (by rw [hL]) ?_
  refine zs_callV (M := mX13_begin) (As := [.int (nI L)]) (st := []) (Kc := [(mo, .inr (11, fMo e g w)), ((e 1), .inl (0, 740, .inl (nF bt))), ((e 14), .inl (0, 800, .inl nw))]) (Kr := [((e 15), .inl (0, 200, .inl rf)), ((e 19), .inl (2, 12, .inr (.inl rn))), ((e 18), .inl (2, 12, .inr (.inl nm)))]) [0, 1, 4] [2, 3, 5] 0 dX13_yard_4 zl_RX13_282 kX13_begin rfl rfl rfl rfl rfl (by decide) rfl rfl (show dd - 1 + 1 ≤ dd by omega) (Nat.zero_le _) (Nat.zero_le _) (Nat.le_of_ble_eq_true rfl) (s_mBegin l (dd - 1) mo e g w n L bt nw (by omega) hn (by omega) hbt hb h2) (fun r K1 hr => ?_)
  obtain ⟨rfl, g1, w1, hfr1, ⟨q0, q2, q3, q4, q10, q22⟩, hT1, rfl⟩ := hr
  refine zs_K (K' := [(mo, .inr (11, fMo e g1 w1)), ((e 1), .inl (0, 740, .inl (nF bt))), ((e 15), .inl (0, 200, .inl rf)), ((e 19), .inl (2, 12, .inr (.inl rn))), ((e 14), .inl (0, 800, .inl (mLay g nw))), ((e 18), .inl (2, 12, .inr (.inl nm)))]) [3, 4, 0, 1, 5, 2] rfl (by decide) ?_
  refine zs_aload_n dX13_yard_7 rfl rfl ?_
  refine zs_get 0 dX13_yard_8 zf_RX13_16 rfl (v := .ref (e 15)) rfl ?_
  refine zs_callS (M := mX13_standard) (As := [.ref (e 15)]) (st := []) (Kc := [((e 15), .inl (0, 200, .inl rf))]) (Kr := [(mo, .inr (11, fMo e g1 w1)), ((e 1), .inl (0, 740, .inl (nF bt))), ((e 19), .inl (2, 12, .inr (.inl rn))), ((e 14), .inl (0, 800, .inl (mLay g nw))), ((e 18), .inl (2, 12, .inr (.inl nm)))]) [2] [0, 1, 3, 4, 5] dX13_yard_11 zl_RX13_243 kX13_standard rfl rfl rfl rfl rfl (by decide) (show dd - 1 + 1 ≤ dd by omega) (Nat.zero_le _) (Nat.zero_le _) (Nat.le_of_ble_eq_true rfl) (s_mStandard l (dd - 1) (e 15) 200 rf (by omega)) (fun r K1 hr => ?_)
  obtain ⟨rfl, rfl⟩ := hr
  refine zs_K (K' := [(mo, .inr (11, fMo e g1 w1)), ((e 1), .inl (0, 740, .inl (nF bt))), ((e 15), .inl (0, 200, .inl (mStd rf))), ((e 19), .inl (2, 12, .inr (.inl rn))), ((e 14), .inl (0, 800, .inl (mLay g nw))), ((e 18), .inl (2, 12, .inr (.inl nm)))]) [0, 1, 5, 2, 3, 4] rfl (by decide) ?_
  refine zs_aload_n dX13_yard_14 rfl rfl ?_
  refine zs_iconst (v := nI 0) dX13_yard_15 (by decide) ?_
  refine zs_put 0 dX13_yard_16 zf_RX13_255 rfl (Nat.le_of_ble_eq_true rfl) (zPv_i _) ?_
  show zS _ _ _ _ _ _ [(mo, .inr (11, fMo e (upd g1 23 (nI 0)) w1)), ((e 1), .inl (0, 740, .inl (nF bt))), ((e 15), .inl (0, 200, .inl (mStd rf))), ((e 19), .inl (2, 12, .inr (.inl rn))), ((e 14), .inl (0, 800, .inl (mLay g nw))), ((e 18), .inl (2, 12, .inr (.inl nm)))]
  refine zs_iconst (v := nI 0) dX13_yard_19 (by decide) ?_
  refine zs_istore_n (lv' := [(1, .int (nI 0)), (0, .ref mo)]) dX13_yard_20 (Nat.le_of_ble_eq_true rfl) rfl ?_
  refine zs_lv [1, 0] rfl ?_
  refine zs_K (K' := [(mo, .inr (11, fMo e (upd g1 23 (nI 0)) w1)), ((e 1), .inl (0, 740, .inl (nF bt))), ((e 15), .inl (0, 200, .inl (mStd rf))), ((e 19), .inl (2, 12, .inr (.inl rn))), ((e 14), .inl (0, 800, .inl (mLay g nw))), ((e 18), .inl (2, 12, .inr (.inl nm)))]) [0, 1, 2, 3, 4, 5] rfl (by decide) ?_
  refine lp_myard mo e n L bt (mLay g nw) nm (upd g1 23 (nI 0)) (by omega) hn hL hbt q3 q4 (pLines bt n L 700 (nxt bt n L (0, 0, 0, v, none)) tk (yClr D2) 0) (fun r K1 hb1 => ?_) (fun hG g2 w2 rf2 rn2 hfr2 hT2 hRd2 => ?_) 700 0 (nxt bt n L (0, 0, 0, v, none)) tk (yClr D2) (upd g1 23 (nI 0)) w1 (mStd rf) rn rfl hM mFr_r (mTk_f (hT1 v) rfl rfl rfl rfl rfl) nxt_W (nxt_OK hbt hn) hI ⟨yR_std, fun j hj => absurd (show j < 0 from hj) (Nat.not_lt_zero j), by rw [show (yClr D2).1 18 = 0 from rfl]; exact congrArg nI (show 0 = hdM 0 by decide)⟩ rfl
  · obtain ⟨hG, rfl, g2, w2, rf2, rn2, hfr2, h10, rfl⟩ := hb1
    exact Or.inr ⟨hG, rfl, g2, w2, rf2, rn2, (mFr_t (mFr_t hfr1 (mFr_u mFr_r (by decide) : mFr [0, 2, 3, 4, 5, 6, 7, 8, 9, 10, 11, 13, 22, 23] g1 (upd g1 23 (nI 0))) (by decide) (by decide) : mFr [0, 2, 3, 4, 5, 6, 7, 8, 9, 10, 11, 13, 22, 23] g (upd g1 23 (nI 0))) hfr2 (by decide) (by decide)), ⟨(hfr2 0 (by decide)).trans q0, (hfr2 2 (by decide)).trans q2, h10, (hfr2 22 (by decide)).trans q22⟩, rfl⟩
  · refine zs_iconst (v := nI 0) dX13_yard_48 (by decide) ?_
    refine zs_istore_n (lv' := [(2, .int (nI 0)), (0, .ref mo), (1, .int (nI ((pLines bt n L 700 (nxt bt n L (0, 0, 0, v, none)) tk (yClr D2) 0).2)))]) dX13_yard_49 (Nat.le_of_ble_eq_true rfl) rfl ?_
    refine zs_lv [1, 2, 0] rfl ?_
    refine zs_eq (K' := [(mo, .inr (11, fMo e g2 w2)), ((e 1), .inl (0, 740, .inl (nF bt))), ((e 15), .inl (0, 200, .inl rf2)), ((e 19), .inl (2, 12, .inr (.inl rn2))), ((e 14), .inl (0, 800, .inl (pCl rf2 (mLay g nw) 0))), ((e 18), .inl (2, 12, .inr (.inl nm)))]) (by rw [pCl_0]) ?_
    refine lp_mcy mo e bt (mLay g nw) nm g2 w2 rf2 rn2 (pLines bt n L 700 (nxt bt n L (0, 0, 0, v, none)) tk (yClr D2) 0).2 ?_ 200 0 (by omega)
    refine zs_iconst (v := nI 0) dX13_yard_75 (by decide) ?_
    refine zs_istore_n (lv' := [(2, .int (nI 0)), (0, .ref mo), (1, .int (nI ((pLines bt n L 700 (nxt bt n L (0, 0, 0, v, none)) tk (yClr D2) 0).2)))]) dX13_yard_76 (Nat.le_of_ble_eq_true rfl) rfl ?_
    refine zs_lv [1, 2, 0] rfl ?_
    refine zs_eq (K' := [(mo, .inr (11, fMo e g2 w2)), ((e 1), .inl (0, 740, .inl (nF bt))), ((e 15), .inl (0, 200, .inl rf2)), ((e 19), .inl (2, 12, .inr (.inl rn2))), ((e 14), .inl (0, 800, .inl (pCl rf2 (mLay g nw) 200))), ((e 18), .inl (2, 12, .inr (.inl (pCw rn2 nm 0))))]) (by rw [pCw_0]) ?_
    refine lp_mcn mo e bt (pCl rf2 (mLay g nw) 200) nm g2 w2 rf2 rn2 (pLines bt n L 700 (nxt bt n L (0, 0, 0, v, none)) tk (yClr D2) 0).2 ?_ 12 0 (by omega)
    refine zs_aload_n dX13_yard_101 rfl rfl ?_
    refine zs_get 0 dX13_yard_102 zf_RX13_13 rfl (v := .ref (e 14)) rfl ?_
    refine zs_sipush (v := nI 200) dX13_yard_105 (by decide) ?_
    refine zs_iconst (v := nI 0) dX13_yard_108 (by decide) ?_
    refine zs_iast 4 dX13_yard_109 rfl (vp_in_nI (by omega) (by omega)) ?_
    rw [nI_c (n := 200) (by omega)]
    show zS _ _ _ _ _ _ [(mo, .inr (11, fMo e g2 w2)), ((e 1), .inl (0, 740, .inl (nF bt))), ((e 15), .inl (0, 200, .inl rf2)), ((e 19), .inl (2, 12, .inr (.inl rn2))), ((e 14), .inl (0, 800, .inl (upd (pCl rf2 (mLay g nw) 200) 200 (nI 0)))), ((e 18), .inl (2, 12, .inr (.inl (pCw rn2 nm 12))))]
    refine zs_aload_n dX13_yard_110 rfl rfl ?_
    refine zs_get 0 dX13_yard_111 zf_RX13_13 rfl (v := .ref (e 14)) rfl ?_
    refine zs_sipush (v := nI 540) dX13_yard_114 (by decide) ?_
    refine zs_iconst (v := nI 0) dX13_yard_117 (by decide) ?_
    refine zs_iast 4 dX13_yard_118 rfl (vp_in_nI (by omega) (by omega)) ?_
    rw [nI_c (n := 540) (by omega)]
    show zS _ _ _ _ _ _ [(mo, .inr (11, fMo e g2 w2)), ((e 1), .inl (0, 740, .inl (nF bt))), ((e 15), .inl (0, 200, .inl rf2)), ((e 19), .inl (2, 12, .inr (.inl rn2))), ((e 14), .inl (0, 800, .inl (upd (upd (pCl rf2 (mLay g nw) 200) 200 (nI 0)) 540 (nI 0)))), ((e 18), .inl (2, 12, .inr (.inl (pCw rn2 nm 12))))]
    refine zs_iload_n dX13_yard_119 rfl ?_
    have hD0 := hJ.2.1.1
    have hy : mYd (pLines bt n L 700 (nxt bt n L (0, 0, 0, v, none)) tk (yClr D2) 0).1.2.2.2 (upd (upd (pCl rf2 (mLay g nw) 200) 200 (nI 0)) 540 (nI 0)) (pCw rn2 nm 12) := ⟨yR_o hD0 hRd2.1 (fun j hj => by rw [upd_x (by omega), upd_x (by omega)]; exact if_pos hj), fun j hj => (if_pos (by omega)).trans (hRd2.2.1 j hj)⟩
    exact zs_iret dX13_yard_120 rfl (Or.inl ⟨hG, rfl, g2, w2, (upd (upd (pCl rf2 (mLay g nw) 200) 200 (nI 0)) 540 (nI 0)), pCw rn2 nm 12, rf2, rn2, (mFr_t (mFr_t hfr1 (mFr_u mFr_r (by decide) : mFr [0, 2, 3, 4, 5, 6, 7, 8, 9, 10, 11, 13, 22, 23] g1 (upd g1 23 (nI 0))) (by decide) (by decide) : mFr [0, 2, 3, 4, 5, 6, 7, 8, 9, 10, 11, 13, 22, 23] g (upd g1 23 (nI 0))) hfr2 (by decide) (by decide)), ⟨(hfr2 0 (by decide)).trans q0, (hfr2 2 (by decide)).trans q2, (hfr2 10 (by decide)).trans q10, (hfr2 22 (by decide)).trans q22⟩, hy, rfl, rfl, rfl⟩)
