/-! ===== the reference: plan() whole ===== -/
/-- k places from the a-th on, told by f -/
def pCo (f nw : Nat → Int32) (a k : Nat) : Nat → Int32 := fun j => if a ≤ j ∧ j < a + k then f (j - a) else nw j
theorem pCo_0 (f nw : Nat → Int32) (a : Nat) : pCo f nw a 0 = nw := by funext j; exact if_neg (by omega)
theorem pCo_u {f nw : Nat → Int32} {a k : Nat} {v : Int32} (h : v = f k) : upd (pCo f nw a k) (a + k) v = pCo f nw a (k + 1) := by
  funext j
  unfold upd pCo
  by_cases h1 : j = a + k
  · rw [if_pos h1, if_pos (by omega), h, show j - a = k by omega]
  · rw [if_neg h1]
    by_cases h2 : a ≤ j ∧ j < a + k
    · rw [if_pos h2, if_pos (by omega)]
    · rw [if_neg h2, if_neg (by omega)]
/-- the reference's plan -/
def mPl (P : zPl) (nw : Nat → Int32) : Prop := nw 200 = nI P.1 ∧ ∀ i, i < P.1 → pE P (fun j => nw (210 + j)) i
set_option maxRecDepth 100000 in
theorem lp_mpcp {l : Launch} {dd : Nat} {Po : zPo} {K0 : zK} {h0 : List va_E} {Xo : zK → Prop} {Gc : zG → Prop} (mo : Nat) (e : Nat → Nat) (g : Nat → Int32) (w : Int64) (bt : Nat → Nat) (nw : Nat → Int32) (nm : Nat → Int64) (pf : Nat → Int32) (tm : Nat) (hm : tm ≤ 20) (h84 : g 84 = nI tm)
    (hk : zS (l, mX13_plan, dd, Po, K0, h0, Xo, Gc) 0 0 68 [(0, .ref mo)] [] [(mo, .inr (11, fMo e g w)), ((e 1), .inl (0, 740, .inl (nF bt))), ((e 14), .inl (0, 800, .inl (pCo pf nw 210 (16 * tm)))), ((e 18), .inl (2, 12, .inr (.inl nm))), ((e 16), .inl (0, 320, .inl pf))]) :
    ∀ (m i : Nat) , i + m = 16 * tm → zS (l, mX13_plan, dd, Po, K0, h0, Xo, Gc) 0 0 35 [(0, .ref mo), (1, .int (nI i))] [] [(mo, .inr (11, fMo e g w)), ((e 1), .inl (0, 740, .inl (nF bt))), ((e 14), .inl (0, 800, .inl (pCo pf nw 210 i))), ((e 18), .inl (2, 12, .inr (.inl nm))), ((e 16), .inl (0, 320, .inl pf))] := by
  intro m
  induction m with
  | zero =>
    intro i hi
    refine zs_iload_n dX13_plan_35 rfl ?_
    refine zs_bipush (v := nI 16) dX13_plan_36 (by decide) ?_
    refine zs_aload_n dX13_plan_38 rfl rfl ?_
    refine zs_get 0 dX13_plan_39 zf_RX13_491 rfl (v := .int (g 84)) rfl ?_
    refine zs_as (y := nI tm) h84 ?_
    refine zs_imul dX13_plan_42 ?_
    refine zs_as (y := nI (16 * tm)) (nI_mul _ _) ?_
    refine zs_icmp_ge (tgt := 68) dX13_plan_43 (by decide) (fun c_1 => ?_) (fun c_1 => (c_1 (by rw [show i = 16 * tm by omega]; exact Int32.le_refl _) : False).elim)
    rw [show i = 16 * tm by omega]
    refine zs_lv [0] rfl ?_
    exact hk
  | succ m ih =>
    intro i hi
    refine zs_iload_n dX13_plan_35 rfl ?_
    refine zs_bipush (v := nI 16) dX13_plan_36 (by decide) ?_
    refine zs_aload_n dX13_plan_38 rfl rfl ?_
    refine zs_get 0 dX13_plan_39 zf_RX13_491 rfl (v := .int (g 84)) rfl ?_
    refine zs_as (y := nI tm) h84 ?_
    refine zs_imul dX13_plan_42 ?_
    refine zs_as (y := nI (16 * tm)) (nI_mul _ _) ?_
    refine zs_icmp_ge (tgt := 68) dX13_plan_43 (by decide) (fun c_1 => (nI_ge (show i < 16 * tm by omega) (by omega) c_1 : False).elim) (fun c_1 => ?_)
    refine zs_aload_n dX13_plan_46 rfl rfl ?_
    refine zs_get 0 dX13_plan_47 zf_RX13_13 rfl (v := .ref (e 14)) rfl ?_
    refine zs_sipush (v := nI 210) dX13_plan_50 (by decide) ?_
    refine zs_iload_n dX13_plan_53 rfl ?_
    refine zs_iadd dX13_plan_54 ?_
    refine zs_as (y := nI (210 + i)) (nI_add _ _) ?_
    refine zs_aload_n dX13_plan_55 rfl rfl ?_
    refine zs_get 0 dX13_plan_56 zf_RX13_19 rfl (v := .ref (e 16)) rfl ?_
    refine zs_iload_n dX13_plan_59 rfl ?_
    refine zs_iald 4 dX13_plan_60 rfl (vp_in_nI (by omega) (by omega)) ?_
    refine zs_as (y := pf i) (by rw [nI_c (n := i) (by omega)]) ?_
    refine zs_iast 2 dX13_plan_61 rfl (vp_in_nI (by omega) (by omega)) ?_
    rw [nI_c (n := 210 + i) (by omega)]
    rw [pCo_u (f := pf) (nw := nw) (a := 210) (k := i) rfl]
    show zS _ _ _ _ _ _ [(mo, .inr (11, fMo e g w)), ((e 1), .inl (0, 740, .inl (nF bt))), ((e 14), .inl (0, 800, .inl (pCo pf nw 210 (i + 1)))), ((e 18), .inl (2, 12, .inr (.inl nm))), ((e 16), .inl (0, 320, .inl pf))]
    refine zs_iinc (v := (nI (i + 1))) (lv' := [(1, .int (nI (i + 1))), (0, .ref mo)]) dX13_plan_62 rfl (nI_add _ 1) (Nat.le_of_ble_eq_true rfl) rfl ?_
    refine zs_goto (tgt := 35) dX13_plan_65 (by decide) ?_
    refine zs_lv [1, 0] rfl ?_
    exact ih (i + 1) (by omega)
