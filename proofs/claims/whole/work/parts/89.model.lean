/-! ===== the reference: yard() ===== -/
/-- new words before place k, old from it on -/
def pCw (new old : Nat → Int64) (k : Nat) : Nat → Int64 := fun j => if j < k then new j else old j
theorem pCw_0 (new old : Nat → Int64) : pCw new old 0 = old := by funext j; exact if_neg (Nat.not_lt_zero j)
theorem pCw_u {new old : Nat → Int64} {k : Nat} {v : Int64} (h : v = new k) : upd (pCw new old k) k v = pCw new old (k + 1) := by
  funext j
  unfold upd pCw
  by_cases h1 : j = k
  · rw [if_pos h1, if_pos (by omega), h, h1]
  · rw [if_neg h1]
    by_cases h2 : j < k
    · rw [if_pos h2, if_pos (by omega)]
    · rw [if_neg h2, if_neg (by omega)]
theorem yR_o {D : zYd} {f f' : Nat → Int32} (h0 : D.1 0 ≤ 12) (h : yR D f) (hf : ∀ j, j < 200 → f' j = f j) : yR D f' := by
  obtain ⟨a0, a1, a2, a3, a4, a5, a6, a7, a8, a9, a10, a11, a12, a13⟩ := h
  refine ⟨(hf _ (by decide)).trans a0, (hf _ (by decide)).trans a1, (hf _ (by decide)).trans a2, (hf _ (by decide)).trans a3, (hf _ (by decide)).trans a4, (hf _ (by decide)).trans a5, (hf _ (by decide)).trans a6, (hf _ (by decide)).trans a7, (hf _ (by decide)).trans a8, (hf _ (by decide)).trans a9, (hf _ (by decide)).trans a10, (hf _ (by decide)).trans a11, fun m hm => ?_, fun c hc => ?_⟩
  · have h1 := a12 m hm
    exact ⟨(hf _ (by omega)).trans h1.1, (hf _ (by omega)).trans h1.2.1, (hf _ (by omega)).trans h1.2.2⟩
  · have h1 := a13 c hc
    exact ⟨(hf _ (by omega)).trans h1.1, (hf _ (by omega)).trans h1.2⟩
set_option maxRecDepth 100000 in
theorem lp_mcy {l : Launch} {dd : Nat} {Po : zPo} {K0 : zK} {h0 : List va_E} {Xo : zK → Prop} {Gc : zG → Prop} (mo : Nat) (e : Nat → Nat) (bt : Nat → Nat) (nw : Nat → Int32) (nm : Nat → Int64) (g : Nat → Int32) (w : Int64) (rf : Nat → Int32) (rn : Nat → Int64) (x : Nat) 
    (hk : zS (l, mX13_yard, dd, Po, K0, h0, Xo, Gc) 0 0 75 [(0, .ref mo), (1, .int (nI x))] [] [(mo, .inr (11, fMo e g w)), ((e 1), .inl (0, 740, .inl (nF bt))), ((e 15), .inl (0, 200, .inl rf)), ((e 19), .inl (2, 12, .inr (.inl rn))), ((e 14), .inl (0, 800, .inl (pCl rf nw 200))), ((e 18), .inl (2, 12, .inr (.inl nm)))]) :
    ∀ (m i : Nat) , i + m = 200 → zS (l, mX13_yard, dd, Po, K0, h0, Xo, Gc) 0 0 50 [(0, .ref mo), (1, .int (nI x)), (2, .int (nI i))] [] [(mo, .inr (11, fMo e g w)), ((e 1), .inl (0, 740, .inl (nF bt))), ((e 15), .inl (0, 200, .inl rf)), ((e 19), .inl (2, 12, .inr (.inl rn))), ((e 14), .inl (0, 800, .inl (pCl rf nw i))), ((e 18), .inl (2, 12, .inr (.inl nm)))] := by
  intro m
  induction m with
  | zero =>
    intro i hi
    refine zs_iload_n dX13_yard_50 rfl ?_
    refine zs_sipush (v := nI 200) dX13_yard_51 (by decide) ?_
    refine zs_icmp_ge (tgt := 75) dX13_yard_54 (by decide) (fun c_1 => ?_) (fun c_1 => (c_1 (by rw [show i = 200 by omega]; exact Int32.le_refl _) : False).elim)
    rw [show i = 200 by omega]
    refine zs_lv [0, 1] rfl ?_
    exact hk
  | succ m ih =>
    intro i hi
    refine zs_iload_n dX13_yard_50 rfl ?_
    refine zs_sipush (v := nI 200) dX13_yard_51 (by decide) ?_
    refine zs_icmp_ge (tgt := 75) dX13_yard_54 (by decide) (fun c_1 => (nI_ge (show i < 200 by omega) (by omega) c_1 : False).elim) (fun c_1 => ?_)
    refine zs_aload_n dX13_yard_57 rfl rfl ?_
    refine zs_get 0 dX13_yard_58 zf_RX13_13 rfl (v := .ref (e 14)) rfl ?_
    refine zs_iload_n dX13_yard_61 rfl ?_
    refine zs_aload_n dX13_yard_62 rfl rfl ?_
    refine zs_get 0 dX13_yard_63 zf_RX13_16 rfl (v := .ref (e 15)) rfl ?_
    refine zs_iload_n dX13_yard_66 rfl ?_
    refine zs_iald 2 dX13_yard_67 rfl (vp_in_nI (by omega) (by omega)) ?_
    refine zs_as (y := rf i) (by rw [nI_c (n := i) (by omega)]) ?_
    refine zs_iast 4 dX13_yard_68 rfl (vp_in_nI (by omega) (by omega)) ?_
    rw [nI_c (n := i) (by omega)]
    rw [pCl_u (new := rf) (old := nw) (k := i) rfl]
    show zS _ _ _ _ _ _ [(mo, .inr (11, fMo e g w)), ((e 1), .inl (0, 740, .inl (nF bt))), ((e 15), .inl (0, 200, .inl rf)), ((e 19), .inl (2, 12, .inr (.inl rn))), ((e 14), .inl (0, 800, .inl (pCl rf nw (i + 1)))), ((e 18), .inl (2, 12, .inr (.inl nm)))]
    refine zs_iinc (v := (nI (i + 1))) (lv' := [(2, .int (nI (i + 1))), (0, .ref mo), (1, .int (nI x))]) dX13_yard_69 rfl (nI_add _ 1) (Nat.le_of_ble_eq_true rfl) rfl ?_
    refine zs_goto (tgt := 50) dX13_yard_72 (by decide) ?_
    refine zs_lv [1, 2, 0] rfl ?_
    exact ih (i + 1) (by omega)
set_option maxRecDepth 100000 in
theorem lp_mcn {l : Launch} {dd : Nat} {Po : zPo} {K0 : zK} {h0 : List va_E} {Xo : zK → Prop} {Gc : zG → Prop} (mo : Nat) (e : Nat → Nat) (bt : Nat → Nat) (nw : Nat → Int32) (nm : Nat → Int64) (g : Nat → Int32) (w : Int64) (rf : Nat → Int32) (rn : Nat → Int64) (x : Nat) 
    (hk : zS (l, mX13_yard, dd, Po, K0, h0, Xo, Gc) 0 0 101 [(0, .ref mo), (1, .int (nI x))] [] [(mo, .inr (11, fMo e g w)), ((e 1), .inl (0, 740, .inl (nF bt))), ((e 15), .inl (0, 200, .inl rf)), ((e 19), .inl (2, 12, .inr (.inl rn))), ((e 14), .inl (0, 800, .inl nw)), ((e 18), .inl (2, 12, .inr (.inl (pCw rn nm 12))))]) :
    ∀ (m i : Nat) , i + m = 12 → zS (l, mX13_yard, dd, Po, K0, h0, Xo, Gc) 0 0 77 [(0, .ref mo), (1, .int (nI x)), (2, .int (nI i))] [] [(mo, .inr (11, fMo e g w)), ((e 1), .inl (0, 740, .inl (nF bt))), ((e 15), .inl (0, 200, .inl rf)), ((e 19), .inl (2, 12, .inr (.inl rn))), ((e 14), .inl (0, 800, .inl nw)), ((e 18), .inl (2, 12, .inr (.inl (pCw rn nm i))))] := by
  intro m
  induction m with
  | zero =>
    intro i hi
    refine zs_iload_n dX13_yard_77 rfl ?_
    refine zs_bipush (v := nI 12) dX13_yard_78 (by decide) ?_
    refine zs_icmp_ge (tgt := 101) dX13_yard_80 (by decide) (fun c_1 => ?_) (fun c_1 => (c_1 (by rw [show i = 12 by omega]; exact Int32.le_refl _) : False).elim)
    rw [show i = 12 by omega]
    refine zs_lv [0, 1] rfl ?_
    exact hk
  | succ m ih =>
    intro i hi
    refine zs_iload_n dX13_yard_77 rfl ?_
    refine zs_bipush (v := nI 12) dX13_yard_78 (by decide) ?_
    refine zs_icmp_ge (tgt := 101) dX13_yard_80 (by decide) (fun c_1 => (nI_ge (show i < 12 by omega) (by omega) c_1 : False).elim) (fun c_1 => ?_)
    refine zs_aload_n dX13_yard_83 rfl rfl ?_
    refine zs_get 0 dX13_yard_84 zf_RX13_25 rfl (v := .ref (e 18)) rfl ?_
    refine zs_iload_n dX13_yard_87 rfl ?_
    refine zs_aload_n dX13_yard_88 rfl rfl ?_
    refine zs_get 0 dX13_yard_89 zf_RX13_29 rfl (v := .ref (e 19)) rfl ?_
    refine zs_iload_n dX13_yard_92 rfl ?_
    refine zs_lald 3 dX13_yard_93 rfl (vp_in_nI (by omega) (by omega)) ?_
    rw [nI_c (n := i) (by omega)]
    refine zs_last 5 dX13_yard_94 rfl (vp_in_nI (by omega) (by omega)) ?_
    rw [nI_c (n := i) (by omega)]
    rw [pCw_u (new := rn) (old := nm) (k := i) rfl]
    show zS _ _ _ _ _ _ [(mo, .inr (11, fMo e g w)), ((e 1), .inl (0, 740, .inl (nF bt))), ((e 15), .inl (0, 200, .inl rf)), ((e 19), .inl (2, 12, .inr (.inl rn))), ((e 14), .inl (0, 800, .inl nw)), ((e 18), .inl (2, 12, .inr (.inl (pCw rn nm (i + 1)))))]
    refine zs_iinc (v := (nI (i + 1))) (lv' := [(2, .int (nI (i + 1))), (0, .ref mo), (1, .int (nI x))]) dX13_yard_95 rfl (nI_add _ 1) (Nat.le_of_ble_eq_true rfl) rfl ?_
    refine zs_goto (tgt := 77) dX13_yard_98 (by decide) ?_
    refine zs_lv [1, 2, 0] rfl ?_
    exact ih (i + 1) (by omega)
