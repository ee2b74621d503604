/-! ===== the reference: a man at hand ===== -/
def fWi : Option Nat → Int32
  | none => -1
  | some i => nI i
theorem dX13_manAtHand_0 : decode cX13_manAtHand 0 = .ok (.iconst 0, 1) := by decide +kernel
theorem dX13_manAtHand_1 : decode cX13_manAtHand 1 = .ok (.istore_n 1, 1) := by decide +kernel
theorem dX13_manAtHand_2 : decode cX13_manAtHand 2 = .ok (.iload_n 1, 1) := by decide +kernel
theorem dX13_manAtHand_3 : decode cX13_manAtHand 3 = .ok (.aload_n 0, 1) := by decide +kernel
theorem dX13_manAtHand_4 : decode cX13_manAtHand 4 = .ok (.invokevirtual 288, 3) := by decide +kernel
theorem dX13_manAtHand_7 : decode cX13_manAtHand 7 = .ok (.if_icmp .ge 25, 3) := by decide +kernel
theorem dX13_manAtHand_10 : decode cX13_manAtHand 10 = .ok (.aload_n 0, 1) := by decide +kernel
theorem dX13_manAtHand_11 : decode cX13_manAtHand 11 = .ok (.getfield 25, 3) := by decide +kernel
theorem dX13_manAtHand_14 : decode cX13_manAtHand 14 = .ok (.iload_n 1, 1) := by decide +kernel
theorem dX13_manAtHand_15 : decode cX13_manAtHand 15 = .ok (.laload, 1) := by decide +kernel
theorem dX13_manAtHand_16 : decode cX13_manAtHand 16 = .ok (.aload_n 0, 1) := by decide +kernel
theorem dX13_manAtHand_17 : decode cX13_manAtHand 17 = .ok (.getfield 183, 3) := by decide +kernel
theorem dX13_manAtHand_20 : decode cX13_manAtHand 20 = .ok (.lcmp, 1) := by decide +kernel
theorem dX13_manAtHand_21 : decode cX13_manAtHand 21 = .ok (.ifCond .ne 5, 3) := by decide +kernel
theorem dX13_manAtHand_24 : decode cX13_manAtHand 24 = .ok (.iload_n 1, 1) := by decide +kernel
theorem dX13_manAtHand_25 : decode cX13_manAtHand 25 = .ok (.ireturn, 1) := by decide +kernel
theorem dX13_manAtHand_26 : decode cX13_manAtHand 26 = .ok (.iinc 1 1, 3) := by decide +kernel
theorem dX13_manAtHand_29 : decode cX13_manAtHand 29 = .ok (.goto (-27), 3) := by decide +kernel
theorem dX13_manAtHand_32 : decode cX13_manAtHand 32 = .ok (.iconst (-1), 1) := by decide +kernel
theorem dX13_manAtHand_33 : decode cX13_manAtHand 33 = .ok (.ireturn, 1) := by decide +kernel
set_option maxRecDepth 100000 in
theorem lp_mhand {l : Launch} {dd : Nat} {Po : zPo} {K0 : zK} {h0 : List va_E} {Xo : zK → Prop} {Gc : zG → Prop} (mo : Nat) (e : Nat → Nat) (g : Nat → Int32) (w : Int64) (nw : Nat → Int32) (nm : Nat → Int64) (D : zYd) (v : Nat) (hd : 1 ≤ dd) (hv : v < 400000000) (hw1 : w = nL v) (h12 : D.1 0 ≤ 12) (hnm : ∀ j, D.2.2.1 j < 400000000) (hy : mYd D nw nm) (W : Option Nat) (hP : ∀ r K', (r = some (.int (fWi W)) ∧ K' = [(mo, .inr (11, fMo e g w)), ((e 14), .inl (0, 800, .inl nw)), ((e 18), .inl (2, 12, .inr (.inl nm)))]) → Po r K') : ∀ (m i : Nat), i + m = D.1 0 → mFind D.2.2.1 v m i = W → zS (l, mX13_manAtHand, dd, Po, K0, h0, Xo, Gc) 0 0 2 [(0, .ref mo), (1, .int (nI i))] [] [(mo, .inr (11, fMo e g w)), ((e 14), .inl (0, 800, .inl nw)), ((e 18), .inl (2, 12, .inr (.inl nm)))] := by
  intro m
  induction m with
  | zero =>
    intro i hi hWW
    refine zs_iload_n dX13_manAtHand_2 rfl ?_
    refine zs_aload_n dX13_manAtHand_3 rfl rfl ?_
    refine zs_callV (M := mX13_men) (As := []) (st := [.int (nI i)]) (Kc := [(mo, .inr (11, fMo e g w)), ((e 14), .inl (0, 800, .inl nw))]) (Kr := [((e 18), .inl (2, 12, .inr (.inl nm)))]) [0, 1] [2] 0 dX13_manAtHand_4 zl_RX13_288 kX13_men rfl rfl rfl rfl rfl (by decide) rfl rfl (show dd - 1 + 1 ≤ dd by omega) (Nat.zero_le _) (Nat.zero_le _) (Nat.le_of_ble_eq_true rfl) (s_mMen l (dd - 1) mo e g w nw D hy.1) (fun r K1 hr => ?_)
    obtain ⟨rfl, rfl⟩ := hr
    refine zs_K (K' := [(mo, .inr (11, fMo e g w)), ((e 14), .inl (0, 800, .inl nw)), ((e 18), .inl (2, 12, .inr (.inl nm)))]) [1, 2, 0] rfl (by decide) ?_
    refine zs_icmp_ge (tgt := 32) dX13_manAtHand_7 (by decide) (fun c_1 => ?_) (fun c_1 => (c_1 (by rw [show i = D.1 0 by omega]; exact Int32.le_refl _) : False).elim)
    refine zs_iconst (v := (-1)) dX13_manAtHand_32 (by decide) ?_
    have hWi : W = none := hWW.symm
    exact zs_iret dX13_manAtHand_33 rfl (hP _ _ ⟨by rw [hWi]; rfl, rfl⟩)
  | succ m ih =>
    intro i hi hWW
    refine zs_iload_n dX13_manAtHand_2 rfl ?_
    refine zs_aload_n dX13_manAtHand_3 rfl rfl ?_
    refine zs_callV (M := mX13_men) (As := []) (st := [.int (nI i)]) (Kc := [(mo, .inr (11, fMo e g w)), ((e 14), .inl (0, 800, .inl nw))]) (Kr := [((e 18), .inl (2, 12, .inr (.inl nm)))]) [0, 1] [2] 0 dX13_manAtHand_4 zl_RX13_288 kX13_men rfl rfl rfl rfl rfl (by decide) rfl rfl (show dd - 1 + 1 ≤ dd by omega) (Nat.zero_le _) (Nat.zero_le _) (Nat.le_of_ble_eq_true rfl) (s_mMen l (dd - 1) mo e g w nw D hy.1) (fun r K1 hr => ?_)
    obtain ⟨rfl, rfl⟩ := hr
    refine zs_K (K' := [(mo, .inr (11, fMo e g w)), ((e 14), .inl (0, 800, .inl nw)), ((e 18), .inl (2, 12, .inr (.inl nm)))]) [1, 2, 0] rfl (by decide) ?_
    refine zs_icmp_ge (tgt := 32) dX13_manAtHand_7 (by decide) (fun c_1 => (nI_ge (show i < D.1 0 by omega) (by omega) c_1 : False).elim) (fun c_1 => ?_)
    refine zs_aload_n dX13_manAtHand_10 rfl rfl ?_
    refine zs_get 0 dX13_manAtHand_11 zf_RX13_25 rfl (v := .ref (e 18)) rfl ?_
    refine zs_iload_n dX13_manAtHand_14 rfl ?_
    refine zs_lald 2 dX13_manAtHand_15 rfl (vp_in_nI (by omega) (by omega)) ?_
    rw [nI_c (n := i) (by omega)]
    refine zs_aload_n dX13_manAtHand_16 rfl rfl ?_
    refine zs_get 0 dX13_manAtHand_17 zf_RX13_183 rfl (v := .long w) rfl ?_
    refine zs_lcmp dX13_manAtHand_20 ?_
    refine zs_if_ne (tgt := 26) dX13_manAtHand_21 (by decide) (fun c_2 => ?_) (fun c_2 => ?_)
    · refine zs_iinc (v := (nI (i + 1))) (lv' := [(1, .int (nI (i + 1))), (0, .ref mo)]) dX13_manAtHand_26 rfl (nI_add _ 1) (Nat.le_of_ble_eq_true rfl) rfl ?_
      refine zs_goto (tgt := 2) dX13_manAtHand_29 (by decide) ?_
      refine zs_lv [1, 0] rfl ?_
      exact ih (i + 1) (by omega) (by rw [← hWW, mFind, if_neg (fun h => c_2 (lg_cmp_0.mpr (by rw [hy.2 i (by omega), h, hw1])))])
    · refine zs_iload_n dX13_manAtHand_24 rfl ?_
      have hWi : W = some i := by rw [← hWW, mFind, if_pos ((nL_i (by have := hnm i; omega) (by omega)).mp (by rw [← hy.2 i (by omega), ← hw1]; exact lg_cmp_0.mp c_2))]
      exact zs_iret dX13_manAtHand_25 rfl (hP _ _ ⟨by rw [hWi]; rfl, rfl⟩)
set_option maxRecDepth 100000 in
theorem s_mManAtHand (l : Launch) (dd : Nat) (mo : Nat) (e : Nat → Nat) (g : Nat → Int32) (w : Int64) (nw : Nat → Int32) (nm : Nat → Int64) (D : zYd) (v : Nat) (hd : 1 ≤ dd) (hv : v < 400000000) (hw1 : w = nL v) (h12 : D.1 0 ≤ 12) (hnm : ∀ j, D.2.2.1 j < 400000000) (hy : mYd D nw nm) : zSp l mX13_manAtHand dd 0 0 [.ref mo] [(mo, .inr (11, fMo e g w)), ((e 14), .inl (0, 800, .inl nw)), ((e 18), .inl (2, 12, .inr (.inl nm)))] (fun r K' => r = some (.int (fWi (mFind D.2.2.1 v (D.1 0) 0))) ∧ K' = [(mo, .inr (11, fMo e g w)), ((e 14), .inl (0, 800, .inl nw)), ((e 18), .inl (2, 12, .inr (.inl nm)))]) := by
  refine zSp.of (by decide) (Nat.le_of_ble_eq_true rfl) (fun h0 => ?_)
  show zS _ 0 0 0 [(0, .ref mo)] [] [(mo, .inr (11, fMo e g w)), ((e 14), .inl (0, 800, .inl nw)), ((e 18), .inl (2, 12, .inr (.inl nm)))]
  refine zs_iconst (v := nI 0) dX13_manAtHand_0 (by decide) ?_
  refine zs_istore_n (lv' := [(1, .int (nI 0)), (0, .ref mo)]) dX13_manAtHand_1 (Nat.le_of_ble_eq_true rfl) rfl ?_
  refine zs_lv [1, 0] rfl ?_
  exact lp_mhand mo e g w nw nm D v hd hv hw1 h12 hnm hy (mFind D.2.2.1 v (D.1 0) 0) (fun r K1 h => h) (D.1 0) 0 (Nat.zero_add _) rfl
def mMs (b : Nat → Nat) (n L : Nat) (D : zYd) (lst : Nat) : Nat → Nat → zTk → Nat → zPl → zPp
  | 0, _, τ, tk, P => (3, τ, tk, P)
  | q + 1, k, τ, tk, P =>
    if lst ≤ k ∧ ¬ τ.1 = 2 then (0, τ, tk, pWn P k) else
    if tNm τ = false then (1, τ, tk, P) else
    match mFind D.2.2.1 τ.2.2.2.1 (D.1 0) 0 with
    | none => (3, τ, tk, P)
    | some i => if 12 ≤ k then (3, τ, tk, P) else if pSt P.2.2.2.2 (P.1 * 12) k i = true then (3, τ, tk, P) else mMs b n L D lst q (k + 1) (nxt b n L τ) tk (pWm P k i)
/-- a thing told and its end, by its own end or by the one that follows -/
def mEnd (R : zPp) : Prop := R.1 = 0 ∧ tAt R.2.1 59 = true
theorem mMs_p (b : Nat → Nat) (n L : Nat) (D : zYd) (lst : Nat) : ∀ (q k : Nat) (τ : zTk) (tk : Nat) (P : zPl), (mMs b n L D lst q k τ tk P = pMs b n L D lst q k τ tk P) ∨ ((mMs b n L D lst q k τ tk P).1 = 0 ∧ tAt (mMs b n L D lst q k τ tk P).2.1 59 = false ∧ (pMs b n L D lst q k τ tk P).1 = 1 ∧ (pMs b n L D lst q k τ tk P).2.1 = (mMs b n L D lst q k τ tk P).2.1)
  | 0, k, τ, tk, P => Or.inl rfl
  | q + 1, k, τ, tk, P => by
    unfold mMs pMs
    by_cases h1 : lst ≤ k ∧ ¬ τ.1 = 2
    · rw [if_pos h1]
      by_cases h2 : tAt τ 59 = true
      · rw [if_pos ⟨h1.1, h2⟩]
        exact Or.inl rfl
      · have h3 : tNm τ = false := by rw [tNm, decide_eq_false h1.2, Bool.false_and]
        rw [if_neg (fun h => h2 h.2), if_pos h3]
        exact Or.inr ⟨rfl, by revert h2; show ¬ tAt τ 59 = true → tAt τ 59 = false; cases tAt τ 59 <;> simp, rfl, rfl⟩
    · have h2 : ¬ (lst ≤ k ∧ tAt τ 59 = true) := fun h => h1 ⟨h.1, fun h5 => by have h4 := h.2; rw [tAt, h5] at h4; exact absurd h4 (by rw [decide_eq_false (by decide)]; simp)⟩
      rw [if_neg h1, if_neg h2]
      split
      · exact Or.inl rfl
      · cases mFind D.2.2.1 τ.2.2.2.1 (D.1 0) 0 with
        | none => exact Or.inl rfl
        | some i =>
          show ((if 12 ≤ k then _ else _) = (if 12 ≤ k then _ else _)) ∨ _
          by_cases h3 : 12 ≤ k
          · exact Or.inl (by rw [if_pos h3, if_pos h3])
          · by_cases h4 : pSt P.2.2.2.2 (P.1 * 12) k i = true
            · exact Or.inl (by rw [if_neg h3, if_pos h4, if_neg h3, if_pos h4])
            · have h5 := mMs_p b n L D lst q (k + 1) (nxt b n L τ) tk (pWm P k i)
              simp only [if_neg h3, if_neg h4]
              exact h5
