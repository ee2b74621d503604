/-! ===== the reference: what may be told once ===== -/
theorem yR_p1 {D : zYd} {f : Nat → Int32} {v : Nat} (h : yR D f) : yR (un D.1 5 v, D.2) (upd f 1 (nI v)) := by
  obtain ⟨a0, a1, a2, a3, a4, a5, a6, a7, a8, a9, a10, a11, am, ac⟩ := h
  refine ⟨a0, rfl, a2, a3, a4, a5, a6, a7, a8, a9, a10, a11, fun m hm => ?_, fun c hc => ?_⟩
  · have hb := am m hm
    rw [upd_x (by omega), upd_x (by omega), upd_x (by omega)]
    exact hb
  · have hb := ac c hc
    rw [upd_x (by omega), upd_x (by omega)]
    exact hb
theorem yR_p2 {D : zYd} {f : Nat → Int32} {v : Nat} (h : yR D f) : yR (un D.1 6 v, D.2) (upd f 2 (nI v)) := by
  obtain ⟨a0, a1, a2, a3, a4, a5, a6, a7, a8, a9, a10, a11, am, ac⟩ := h
  refine ⟨a0, a1, rfl, a3, a4, a5, a6, a7, a8, a9, a10, a11, fun m hm => ?_, fun c hc => ?_⟩
  · have hb := am m hm
    rw [upd_x (by omega), upd_x (by omega), upd_x (by omega)]
    exact hb
  · have hb := ac c hc
    rw [upd_x (by omega), upd_x (by omega)]
    exact hb
theorem yR_p3 {D : zYd} {f : Nat → Int32} {v : Nat} (h : yR D f) : yR (un D.1 7 v, D.2) (upd f 3 (nI v)) := by
  obtain ⟨a0, a1, a2, a3, a4, a5, a6, a7, a8, a9, a10, a11, am, ac⟩ := h
  refine ⟨a0, a1, a2, rfl, a4, a5, a6, a7, a8, a9, a10, a11, fun m hm => ?_, fun c hc => ?_⟩
  · have hb := am m hm
    rw [upd_x (by omega), upd_x (by omega), upd_x (by omega)]
    exact hb
  · have hb := ac c hc
    rw [upd_x (by omega), upd_x (by omega)]
    exact hb
theorem yR_p4 {D : zYd} {f : Nat → Int32} {v : Nat} (h : yR D f) : yR (un D.1 8 v, D.2) (upd f 4 (nI v)) := by
  obtain ⟨a0, a1, a2, a3, a4, a5, a6, a7, a8, a9, a10, a11, am, ac⟩ := h
  refine ⟨a0, a1, a2, a3, rfl, a5, a6, a7, a8, a9, a10, a11, fun m hm => ?_, fun c hc => ?_⟩
  · have hb := am m hm
    rw [upd_x (by omega), upd_x (by omega), upd_x (by omega)]
    exact hb
  · have hb := ac c hc
    rw [upd_x (by omega), upd_x (by omega)]
    exact hb
theorem yR_p5 {D : zYd} {f : Nat → Int32} {v : Nat} (h : yR D f) : yR (un D.1 9 v, D.2) (upd f 5 (nI v)) := by
  obtain ⟨a0, a1, a2, a3, a4, a5, a6, a7, a8, a9, a10, a11, am, ac⟩ := h
  refine ⟨a0, a1, a2, a3, a4, rfl, a6, a7, a8, a9, a10, a11, fun m hm => ?_, fun c hc => ?_⟩
  · have hb := am m hm
    rw [upd_x (by omega), upd_x (by omega), upd_x (by omega)]
    exact hb
  · have hb := ac c hc
    rw [upd_x (by omega), upd_x (by omega)]
    exact hb
theorem yR_p6 {D : zYd} {f : Nat → Int32} {v : Nat} (h : yR D f) : yR (un D.1 10 v, D.2) (upd f 6 (nI v)) := by
  obtain ⟨a0, a1, a2, a3, a4, a5, a6, a7, a8, a9, a10, a11, am, ac⟩ := h
  refine ⟨a0, a1, a2, a3, a4, a5, rfl, a7, a8, a9, a10, a11, fun m hm => ?_, fun c hc => ?_⟩
  · have hb := am m hm
    rw [upd_x (by omega), upd_x (by omega), upd_x (by omega)]
    exact hb
  · have hb := ac c hc
    rw [upd_x (by omega), upd_x (by omega)]
    exact hb
theorem yR_p7 {D : zYd} {f : Nat → Int32} {v : Nat} (h : yR D f) : yR (un D.1 11 v, D.2) (upd f 7 (nI v)) := by
  obtain ⟨a0, a1, a2, a3, a4, a5, a6, a7, a8, a9, a10, a11, am, ac⟩ := h
  refine ⟨a0, a1, a2, a3, a4, a5, a6, rfl, a8, a9, a10, a11, fun m hm => ?_, fun c hc => ?_⟩
  · have hb := am m hm
    rw [upd_x (by omega), upd_x (by omega), upd_x (by omega)]
    exact hb
  · have hb := ac c hc
    rw [upd_x (by omega), upd_x (by omega)]
    exact hb
theorem yR_p8 {D : zYd} {f : Nat → Int32} {v : Nat} (h : yR D f) : yR (un D.1 12 v, D.2) (upd f 8 (nI v)) := by
  obtain ⟨a0, a1, a2, a3, a4, a5, a6, a7, a8, a9, a10, a11, am, ac⟩ := h
  refine ⟨a0, a1, a2, a3, a4, a5, a6, a7, rfl, a9, a10, a11, fun m hm => ?_, fun c hc => ?_⟩
  · have hb := am m hm
    rw [upd_x (by omega), upd_x (by omega), upd_x (by omega)]
    exact hb
  · have hb := ac c hc
    rw [upd_x (by omega), upd_x (by omega)]
    exact hb
theorem yR_p11 {D : zYd} {f : Nat → Int32} {d : Int32} (h : yR D f) : yR (D.1, d, D.2.2) (upd f 11 d) := by
  obtain ⟨a0, a1, a2, a3, a4, a5, a6, a7, a8, a9, a10, a11, am, ac⟩ := h
  refine ⟨a0, a1, a2, a3, a4, a5, a6, a7, a8, a9, a10, rfl, fun m hm => ?_, fun c hc => ?_⟩
  · have hb := am m hm
    rw [upd_x (by omega), upd_x (by omega), upd_x (by omega)]
    exact hb
  · have hb := ac c hc
    rw [upd_x (by omega), upd_x (by omega)]
    exact hb
theorem yR_18 {D : zYd} {f : Nat → Int32} {b : Nat} (h : yR D f) : yR (un D.1 18 b, D.2) f := h
abbrev cbL : List Nat := [0, 0, 0, 3, 1, 2, 4, 5, 6, 0]
def cb (k : Nat) : Nat := cbL.getD k 0
theorem had_t : ∀ t, t < 128 → ∀ k, k < 10 → 3 ≤ k → ((nI (hdM t) >>> (nI k &&& 31)) &&& nI 1 = nI 1 ↔ ¬ t &&& 2 ^ cb k = 0) ∧ nI (hdM t) ||| (nI 1 <<< (nI k &&& 31)) = nI (hdM (t ||| 2 ^ cb k)) := by decide +kernel
theorem pOn_0 {b : Nat → Nat} {n L bit : Nat} {τ : zTk} {tk : Nat} {D : zYd} {f : zTk → Nat → zYd → zPy} (h : D.1 18 &&& bit = 0) : pBd (pOnce b n L bit τ tk D) f = f (nxt b n L τ) tk (un D.1 18 (D.1 18 ||| bit), D.2) := by rw [pOnce, if_pos h, pBd_ok]
theorem pOn_1 {b : Nat → Nat} {n L bit : Nat} {τ : zTk} {tk : Nat} {D : zYd} {f : zTk → Nat → zYd → zPy} (h : ¬ D.1 18 &&& bit = 0) : pBd (pOnce b n L bit τ tk D) f = (3, τ, tk, D) := by rw [pOnce, if_neg h, pBd_no (by decide)]
/-- the once-told line that the reference's k-th word begins -/
def mOn (b : Nat → Nat) (n L k : Nat) (τ : zTk) (tk : Nat) (D : zYd) : zPy :=
  if k = 3 then pOne b n L (2 ^ cb 3) 10 99 5 τ tk D else if k = 4 then pBd (pOnce b n L (2 ^ cb 4) τ tk D) (pPails b n L) else if k = 5 then pBd (pOnce b n L (2 ^ cb 5) τ tk D) (pWell b n L) else
  if k = 6 then pOne b n L (2 ^ cb 6) 0 99 10 τ tk D else if k = 7 then pOne b n L (2 ^ cb 7) 1 99 11 τ tk D else if k = 8 then pOne b n L (2 ^ cb 8) 1 9 12 τ tk D else pBd (pOnce b n L (2 ^ cb 9) τ tk D) (pWi b n L)
/-- what it finds first -/
theorem mOn_1 {b : Nat → Nat} {n L k : Nat} {τ : zTk} {tk : Nat} {D : zYd} (hk : 3 ≤ k ∧ k < 10) (h : ¬ D.1 18 &&& 2 ^ cb k = 0) : mOn b n L k τ tk D = (3, τ, tk, D) := by
  unfold mOn pOne
  by_cases h3 : k = 3
  · subst h3; rw [if_pos rfl, pOn_1 h]
  · by_cases h4 : k = 4
    · subst h4; rw [if_neg h3, if_pos rfl, pOn_1 h]
    · by_cases h5 : k = 5
      · subst h5; rw [if_neg h3, if_neg h4, if_pos rfl, pOn_1 h]
      · by_cases h6 : k = 6
        · subst h6; rw [if_neg h3, if_neg h4, if_neg h5, if_pos rfl, pOn_1 h]
        · by_cases h7 : k = 7
          · subst h7; rw [if_neg h3, if_neg h4, if_neg h5, if_neg h6, if_pos rfl, pOn_1 h]
          · by_cases h8 : k = 8
            · subst h8; rw [if_neg h3, if_neg h4, if_neg h5, if_neg h6, if_neg h7, if_pos rfl, pOn_1 h]
            · have h9 : k = 9 := by omega
              subst h9; rw [if_neg h3, if_neg h4, if_neg h5, if_neg h6, if_neg h7, if_neg h8, pOn_1 h]
theorem dX13_readInto_0 : decode cX13_readInto 0 = .ok (.aload_n 0, 1) := by decide +kernel
theorem dX13_readInto_1 : decode cX13_readInto 1 = .ok (.iload_n 2, 1) := by decide +kernel
theorem dX13_readInto_2 : decode cX13_readInto 2 = .ok (.iload_n 3, 1) := by decide +kernel
theorem dX13_readInto_3 : decode cX13_readInto 3 = .ok (.invokevirtual 251, 3) := by decide +kernel
theorem dX13_readInto_6 : decode cX13_readInto 6 = .ok (.ifCond .ne 5, 3) := by decide +kernel
theorem dX13_readInto_9 : decode cX13_readInto 9 = .ok (.iconst 0, 1) := by decide +kernel
theorem dX13_readInto_10 : decode cX13_readInto 10 = .ok (.ireturn, 1) := by decide +kernel
theorem dX13_readInto_11 : decode cX13_readInto 11 = .ok (.aload_n 0, 1) := by decide +kernel
theorem dX13_readInto_12 : decode cX13_readInto 12 = .ok (.getfield 16, 3) := by decide +kernel
theorem dX13_readInto_15 : decode cX13_readInto 15 = .ok (.iload_n 1, 1) := by decide +kernel
theorem dX13_readInto_16 : decode cX13_readInto 16 = .ok (.aload_n 0, 1) := by decide +kernel
theorem dX13_readInto_17 : decode cX13_readInto 17 = .ok (.getfield 223, 3) := by decide +kernel
theorem dX13_readInto_20 : decode cX13_readInto 20 = .ok (.iastore, 1) := by decide +kernel
theorem dX13_readInto_21 : decode cX13_readInto 21 = .ok (.iconst 1, 1) := by decide +kernel
theorem dX13_readInto_22 : decode cX13_readInto 22 = .ok (.ireturn, 1) := by decide +kernel
set_option maxRecDepth 100000 in
theorem s_mReadInto (l : Launch) (dd : Nat) (mo : Nat) (e : Nat → Nat) (g : Nat → Int32) (w : Int64) (n L : Nat) (bt : Nat → Nat) (t : zTk) (rf : Nat → Int32) (pl lo hi : Nat) (hd : 3 ≤ dd) (hn : n ≤ 740) (hL : L ≤ 740) (hbt : ∀ j, bt j < 256) (h3 : g 3 = nI n) (h4 : g 4 = nI L) (hT : mTk n L t g w) (hW : tW n L t) (hO : tOK t) (hpl : pl < 200) (hlo : lo ≤ 99999999) (hhi : hi < 2147483648) : zSp l mX13_readInto dd 0 0 [.ref mo, .int (nI pl), .int (nI lo), .int (nI hi)] [(mo, .inr (11, fMo e g w)), ((e 1), .inl (0, 740, .inl (nF bt))), ((e 15), .inl (0, 200, .inl rf))] (fun r K' => (tNu t lo hi = 0 ∧ r = some (.int 1) ∧ ∃ g' w', mFr [5, 6, 7, 8, 9, 13] g g' ∧ mTk n L (nxt bt n L t) g' w' ∧ K' = [(mo, .inr (11, fMo e g' w'))] ++ ([((e 1), .inl (0, 740, .inl (nF bt)))] ++ [((e 15), .inl (0, 200, .inl (upd rf pl (nI t.2.2.2.1))))])) ∨ (¬ tNu t lo hi = 0 ∧ r = some (.int 0) ∧ K' = [(mo, .inr (11, fMo e (mFa g (tNu t lo hi) t) w))] ++ ([((e 1), .inl (0, 740, .inl (nF bt)))] ++ [((e 15), .inl (0, 200, .inl rf))]))) := by
  refine zSp.of (by decide) (Nat.le_of_ble_eq_true rfl) (fun h0 => ?_)
  show zS _ 0 0 0 [(0, .ref mo), (1, .int (nI pl)), (2, .int (nI lo)), (3, .int (nI hi))] [] [(mo, .inr (11, fMo e g w)), ((e 1), .inl (0, 740, .inl (nF bt))), ((e 15), .inl (0, 200, .inl rf))]

  refine zs_aload_n dX13_readInto_0 rfl rfl ?_
  refine zs_iload_n dX13_readInto_1 rfl ?_
  refine zs_iload_n dX13_readInto_2 rfl ?_
  refine zs_callV (M := mX13_readNumber) (As := [.int (nI lo), .int (nI hi)]) (st := []) (Kc := [(mo, .inr (11, fMo e g w)), ((e 1), .inl (0, 740, .inl (nF bt)))]) (Kr := [((e 15), .inl (0, 200, .inl rf))]) [0, 1] [2] 0 dX13_readInto_3 zl_RX13_251 kX13_readNumber rfl rfl rfl rfl rfl (by decide) rfl rfl (show dd - 1 + 1 ≤ dd by omega) (Nat.zero_le _) (Nat.zero_le _) (Nat.le_of_ble_eq_true rfl) (s_mReadNumber l (dd - 1) mo e g w n L bt t lo hi (by omega) hn hL hbt h3 h4 hT hW hO hlo hhi) (fun r K1 hr => ?_)
  rcases hr with ⟨hq, rfl, g', w', hfr, h13, hT', rfl⟩ | ⟨hq, rfl, rfl⟩
  · refine zs_K (K' := [(mo, .inr (11, fMo e g' w')), ((e 1), .inl (0, 740, .inl (nF bt))), ((e 15), .inl (0, 200, .inl rf))]) [1, 2, 0] rfl (by decide) ?_
    refine zs_if_ne (tgt := 11) dX13_readInto_6 (by decide) (fun c_1 => ?_) (fun c_1 => (by first | exact absurd c_1 (by decide) | exact absurd (by decide) c_1 : False).elim)
    refine zs_aload_n dX13_readInto_11 rfl rfl ?_
    refine zs_get 0 dX13_readInto_12 zf_RX13_16 rfl (v := .ref (e 15)) rfl ?_
    refine zs_iload_n dX13_readInto_15 rfl ?_
    refine zs_aload_n dX13_readInto_16 rfl rfl ?_
    refine zs_get 0 dX13_readInto_17 zf_RX13_223 rfl (v := .int (g' 13)) rfl ?_
    refine zs_as (y := nI t.2.2.2.1) h13 ?_
    refine zs_iast 2 dX13_readInto_20 rfl (vp_in_nI (by omega) (by omega)) ?_
    rw [nI_c (n := pl) (by omega)]
    show zS _ _ _ _ _ _ [(mo, .inr (11, fMo e g' w')), ((e 1), .inl (0, 740, .inl (nF bt))), ((e 15), .inl (0, 200, .inl (upd rf pl (nI t.2.2.2.1))))]
    refine zs_iconst (v := nI 1) dX13_readInto_21 (by decide) ?_
    exact zs_zret dX13_readInto_22 rfl (Or.inr rfl) (Or.inl ⟨hq, rfl, g', w', hfr, hT', rfl⟩)
  · refine zs_K (K' := [(mo, .inr (11, fMo e (mFa g (tNu t lo hi) t) w)), ((e 1), .inl (0, 740, .inl (nF bt))), ((e 15), .inl (0, 200, .inl rf))]) [1, 2, 0] rfl (by decide) ?_
    refine zs_if_ne (tgt := 11) dX13_readInto_6 (by decide) (fun c_2 => (by first | exact absurd c_2 (by decide) | exact absurd (by decide) c_2 : False).elim) (fun c_2 => ?_)
    refine zs_iconst (v := nI 0) dX13_readInto_9 (by decide) ?_
    exact zs_zret dX13_readInto_10 rfl (Or.inl rfl) (Or.inr ⟨hq, rfl, rfl⟩)
theorem dX13_has_0 : decode cX13_has 0 = .ok (.iload_n 0, 1) := by decide +kernel
theorem dX13_has_1 : decode cX13_has 1 = .ok (.iload_n 1, 1) := by decide +kernel
theorem dX13_has_2 : decode cX13_has 2 = .ok (.ishr, 1) := by decide +kernel
theorem dX13_has_3 : decode cX13_has 3 = .ok (.iconst 1, 1) := by decide +kernel
theorem dX13_has_4 : decode cX13_has 4 = .ok (.iand, 1) := by decide +kernel
theorem dX13_has_5 : decode cX13_has 5 = .ok (.iconst 1, 1) := by decide +kernel
theorem dX13_has_6 : decode cX13_has 6 = .ok (.if_icmp .ne 7, 3) := by decide +kernel
theorem dX13_has_9 : decode cX13_has 9 = .ok (.iconst 1, 1) := by decide +kernel
theorem dX13_has_10 : decode cX13_has 10 = .ok (.goto 4, 3) := by decide +kernel
theorem dX13_has_13 : decode cX13_has 13 = .ok (.iconst 0, 1) := by decide +kernel
theorem dX13_has_14 : decode cX13_has 14 = .ok (.ireturn, 1) := by decide +kernel
def zHs (x y : Int32) : Int32 := if ((x >>> (y &&& 31)) &&& nI 1) = nI 1 then 1 else 0
set_option maxRecDepth 100000 in
theorem s_mHas (l : Launch) (dd : Nat) (x y : Int32)  : zSp l mX13_has dd 0 0 [.int x, .int y] [] (fun r K' => r = some (.int (zHs x y)) ∧ K' = []) := by
  refine zSp.of (by decide) (Nat.le_of_ble_eq_true rfl) (fun h0 => ?_)
  show zS _ 0 0 0 [(0, .int x), (1, .int y)] [] []
  refine zs_iload_n dX13_has_0 rfl ?_
  refine zs_iload_n dX13_has_1 rfl ?_
  refine zs_ishr dX13_has_2 ?_
  refine zs_iconst (v := nI 1) dX13_has_3 (by decide) ?_
  refine zs_iand dX13_has_4 ?_
  refine zs_iconst (v := nI 1) dX13_has_5 (by decide) ?_
  refine zs_icmp_ne (tgt := 13) dX13_has_6 (by decide) (fun c_1 => ?_) (fun c_1 => ?_)
  · refine zs_iconst (v := nI 0) dX13_has_13 (by decide) ?_
    exact zs_zret dX13_has_14 rfl (by first | exact Or.inl rfl | exact Or.inr rfl) ⟨by rw [zHs, if_neg c_1]; rfl, rfl⟩
  · refine zs_iconst (v := nI 1) dX13_has_9 (by decide) ?_
    refine zs_goto (tgt := 14) dX13_has_10 (by decide) ?_
    exact zs_zret dX13_has_14 rfl (by first | exact Or.inl rfl | exact Or.inr rfl) ⟨by rw [zHs, if_pos c_1]; rfl, rfl⟩
