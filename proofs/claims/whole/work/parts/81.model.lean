/-! ===== the reference: a man told ===== -/
theorem upd_x {f : Nat → Int32} {k j : Nat} {v : Int32} (h : j ≠ k) : upd f k v j = f j := if_neg h
theorem updL_x {f : Nat → Int64} {k j : Nat} {v : Int64} (h : j ≠ k) : vp_updL f k v j = f j := if_neg h
theorem rdR_man {D : zYd} {g g' : Nat → Int32} {rf : Nat → Int32} {rn : Nat → Int64} {v0 v1 v2 v3 : Nat} {w1 : Int64} (hd12 : D.1 0 < 12) (h : rdR D g rf rn) (h23 : g' 23 = g 23) (hw : w1 = nL v0) :
    rdR (un D.1 0 (D.1 0 + 1), D.2.1, un D.2.2.1 (D.1 0) v0, un D.2.2.2.1 (D.1 0) v1, un D.2.2.2.2.1 (D.1 0) v2, un D.2.2.2.2.2.1 (D.1 0) v3, D.2.2.2.2.2.2) g' (upd (upd (upd (upd rf (20 + 3 * D.1 0 + 0) (nI v1)) (20 + 3 * D.1 0 + 1) (nI v2)) (20 + 3 * D.1 0 + 2) (nI v3)) 0 (nI (D.1 0 + 1))) (vp_updL rn (D.1 0) w1) := by
  obtain ⟨⟨a0, a1, a2, a3, a4, a5, a6, a7, a8, a9, a10, a11, a12, a13⟩, hn, hh⟩ := h
  have hF : ∀ j, j ≠ 0 → (j < 20 ∨ 60 ≤ j) → upd (upd (upd (upd rf (20 + 3 * D.1 0 + 0) (nI v1)) (20 + 3 * D.1 0 + 1) (nI v2)) (20 + 3 * D.1 0 + 2) (nI v3)) 0 (nI (D.1 0 + 1)) j = rf j := fun j h1 h2 => by
    rw [upd_x h1, upd_x (by omega), upd_x (by omega), upd_x (by omega)]
  refine ⟨⟨rfl, (hF 1 (by decide) (by decide)).trans a1, (hF 2 (by decide) (by decide)).trans a2, (hF 3 (by decide) (by decide)).trans a3, (hF 4 (by decide) (by decide)).trans a4, (hF 5 (by decide) (by decide)).trans a5, (hF 6 (by decide) (by decide)).trans a6, (hF 7 (by decide) (by decide)).trans a7, (hF 8 (by decide) (by decide)).trans a8, (hF 9 (by decide) (by decide)).trans a9, (hF 10 (by decide) (by decide)).trans a10, (hF 11 (by decide) (by decide)).trans a11, fun m hm => ?_, fun c hc => ⟨(hF (60 + c) (by omega) (by omega)).trans (a13 c hc).1, (hF (130 + c) (by omega) (by omega)).trans (a13 c hc).2⟩⟩, fun j hj => ?_, ?_⟩
  · have hm : m < D.1 0 + 1 := hm
    show _ = nI (un D.2.2.2.1 (D.1 0) v1 m) ∧ _ = nI (un D.2.2.2.2.1 (D.1 0) v2 m) ∧ _ = nI (un D.2.2.2.2.2.1 (D.1 0) v3 m)
    by_cases hmd : m = D.1 0
    · rw [hmd, un_s, un_s, un_s]
      refine ⟨?_, ?_, ?_⟩
      · rw [upd_x (by omega), upd_x (by omega), upd_x (by omega)]
        exact if_pos rfl
      · rw [upd_x (by omega), upd_x (by omega)]
        exact if_pos rfl
      · rw [upd_x (by omega)]
        exact if_pos rfl
    · rw [un_n hmd, un_n hmd, un_n hmd]
      have hb := a12 m (by omega)
      refine ⟨?_, ?_, ?_⟩
      · rw [upd_x (by omega), upd_x (by omega), upd_x (by omega), upd_x (by omega)]; exact hb.1
      · rw [upd_x (by omega), upd_x (by omega), upd_x (by omega), upd_x (by omega)]; exact hb.2.1
      · rw [upd_x (by omega), upd_x (by omega), upd_x (by omega), upd_x (by omega)]; exact hb.2.2
  · have hj : j < D.1 0 + 1 := hj
    show vp_updL rn (D.1 0) w1 j = nL (un D.2.2.1 (D.1 0) v0 j)
    by_cases hjd : j = D.1 0
    · rw [hjd, un_s, ← hw]
      exact if_pos rfl
    · rw [un_n hjd, updL_x hjd]
      exact hn j (by omega)
  · rw [h23]
    exact hh
set_option maxRecDepth 100000 in
theorem s_mReadMan (l : Launch) (dd : Nat) (mo : Nat) (e : Nat → Nat) (g : Nat → Int32) (w : Int64) (n L : Nat) (bt : Nat → Nat) (t : zTk) (tk : Nat) (D : zYd) (rf : Nat → Int32) (rn : Nat → Int64) (hd : 4 ≤ dd) (hn : n ≤ 740) (hL : L ≤ 740) (hbt : ∀ j, bt j < 256) (h3 : g 3 = nI n) (h4 : g 4 = nI L) (hT : mTk n L t g w) (hW : tW n L t) (hO : tOK t) (hD : yI D) (hRd : rdR D g rf rn) (hk2 : t.1 = 2) : zSp l mX13_readMan dd 0 0 [.ref mo] [(mo, .inr (11, fMo e g w)), ((e 1), .inl (0, 740, .inl (nF bt))), ((e 15), .inl (0, 200, .inl rf)), ((e 19), .inl (2, 12, .inr (.inl rn)))] (fun r K' => ((pMan bt n L t tk D).1 = 0 ∧ r = some (.int 1) ∧ ∃ g' w' rf' rn', mFr [5, 6, 7, 8, 9, 13, 23] g g' ∧ mTk n L (pMan bt n L t tk D).2.1 g' w' ∧ tW n L (pMan bt n L t tk D).2.1 ∧ rdR (pMan bt n L t tk D).2.2.2 g' rf' rn' ∧ K' = [(mo, .inr (11, fMo e g' w'))] ++ ([((e 1), .inl (0, 740, .inl (nF bt)))] ++ ([((e 15), .inl (0, 200, .inl rf'))] ++ [((e 19), .inl (2, 12, .inr (.inl rn')))]))) ∨ (¬ (pMan bt n L t tk D).1 = 0 ∧ r = some (.int 0) ∧ ∃ g' w' rf' rn', mFr [5, 6, 7, 8, 9, 10, 11, 13, 23] g g' ∧ g' 10 = nI (pMan bt n L t tk D).1 ∧ g' 11 = nI (pMan bt n L t tk D).2.1.2.1 ∧ K' = [(mo, .inr (11, fMo e g' w'))] ++ ([((e 1), .inl (0, 740, .inl (nF bt)))] ++ ([((e 15), .inl (0, 200, .inl rf'))] ++ [((e 19), .inl (2, 12, .inr (.inl rn')))])))) := by
  refine zSp.of (by decide) (Nat.le_of_ble_eq_true rfl) (fun h0 => ?_)
  show zS _ 0 0 0 [(0, .ref mo)] [] [(mo, .inr (11, fMo e g w)), ((e 1), .inl (0, 740, .inl (nF bt))), ((e 15), .inl (0, 200, .inl rf)), ((e 19), .inl (2, 12, .inr (.inl rn)))]
  have hD0 := hD.1
  refine zs_aload_n dX13_readMan_0 rfl rfl ?_
  refine zs_get 0 dX13_readMan_1 zf_RX13_16 rfl (v := .ref (e 15)) rfl ?_
  refine zs_iconst (v := nI 0) dX13_readMan_4 (by decide) ?_
  refine zs_iald 2 dX13_readMan_5 rfl (vp_in_nI (by omega) (by omega)) ?_
  refine zs_as (y := nI (D.1 0)) (by rw [nI_c (n := 0) (by omega)]; exact hRd.1.1) ?_
  refine zs_istore_n (lv' := [(1, .int (nI (D.1 0))), (0, .ref mo)]) dX13_readMan_6 (Nat.le_of_ble_eq_true rfl) rfl ?_
  refine zs_iload_n dX13_readMan_7 rfl ?_
  refine zs_bipush (v := nI 12) dX13_readMan_8 (by decide) ?_
  refine zs_icmp_ne (tgt := 19) dX13_readMan_10 (by decide) (fun c_1 => ?_) (fun c_1 => ?_)
  · have c_1 : ¬ ((D.1 0) = 12) := by have hc := c_1; rw [nI_eq' (by omega) (by omega)] at hc; exact hc
    refine zs_aload_n dX13_readMan_19 rfl rfl ?_
    refine zs_callV (M := mX13_go) (As := []) (st := []) (Kc := [(mo, .inr (11, fMo e g w)), ((e 1), .inl (0, 740, .inl (nF bt)))]) (Kr := [((e 15), .inl (0, 200, .inl rf)), ((e 19), .inl (2, 12, .inr (.inl rn)))]) [0, 1] [2, 3] 0 dX13_readMan_20 zl_RX13_226 kX13_go rfl rfl rfl rfl rfl (by decide) rfl rfl (show dd - 1 + 1 ≤ dd by omega) (Nat.zero_le _) (Nat.zero_le _) (Nat.le_of_ble_eq_true rfl) (s_mGoT l (dd - 1) mo e g w n L bt t (by omega) hn hL hbt h3 h4 hT hW (show ¬ t.1 = 0 by omega)) (fun r K1 hr => ?_)
    obtain ⟨rfl, g1, w1, hfr1, hT1, rfl⟩ := hr
    refine zs_K (K' := [(mo, .inr (11, fMo e g1 w1)), ((e 1), .inl (0, 740, .inl (nF bt))), ((e 15), .inl (0, 200, .inl rf)), ((e 19), .inl (2, 12, .inr (.inl rn)))]) [2, 3, 0, 1] rfl (by decide) ?_
    have fr1 : mFr [5, 6, 7, 8, 9, 13, 23] g g1 := mFr_t (mFr_r : mFr [5, 6, 7, 8, 9, 13, 23] g g) hfr1 (by decide) (by decide)
    have h3_1 : g1 3 = nI n := (hfr1 3 (by decide)).trans h3
    have h4_1 : g1 4 = nI L := (hfr1 4 (by decide)).trans h4
    have h23_1 : g1 23 = g 23 := hfr1 23 (by decide)
    have hO_1 := nxt_OK (L := L) (τ := t) hbt hn
    have h14_1 := hO_1.1
    have hkd_1 := mKd_4 (n := n) (L := L) hO_1.1
    refine zs_aload_n dX13_readMan_23 rfl rfl ?_
    refine zs_callV (M := mX13_isName) (As := []) (st := []) (Kc := [(mo, .inr (11, fMo e g1 w1))]) (Kr := [((e 1), .inl (0, 740, .inl (nF bt))), ((e 15), .inl (0, 200, .inl rf)), ((e 19), .inl (2, 12, .inr (.inl rn)))]) [0] [1, 2, 3] 0 dX13_readMan_24 zl_RX13_247 kX13_isName rfl rfl rfl rfl rfl (by decide) rfl rfl (show dd - 1 + 1 ≤ dd by omega) (Nat.zero_le _) (Nat.zero_le _) (Nat.le_of_ble_eq_true rfl) (s_mIsName l (dd - 1) mo e g1 w1 n L (nxt bt n L t) (by omega) hT1 (nxt_W (b := bt) (n := n) (L := L) (τ := t)) hO_1) (fun r K1 hr => ?_)
    obtain ⟨rfl, rfl⟩ := hr
    refine zs_K (K' := [(mo, .inr (11, fMo e g1 w1)), ((e 1), .inl (0, 740, .inl (nF bt))), ((e 15), .inl (0, 200, .inl rf)), ((e 19), .inl (2, 12, .inr (.inl rn)))]) [3, 0, 1, 2] rfl (by decide) ?_
    refine zs_if_ne (tgt := 36) dX13_readMan_27 (by decide) (fun c_2 => ?_) (fun c_2 => ?_)
    · have hname := bI_t c_2
      have hk1 := (tNm_2 hname).1
      have hv1 := hO_1.2.2.2.2.2.2.1 hk1
      have hw1 : w1 = nL (nxt bt n L t).2.2.2.1 := hT1.2.2.2.2 hk1
      refine zs_iconst (v := nI 0) dX13_readMan_36 (by decide) ?_
      refine zs_istore_n (lv' := [(2, .int (nI 0)), (1, .int (nI (D.1 0))), (0, .ref mo)]) dX13_readMan_37 (Nat.le_of_ble_eq_true rfl) rfl ?_
      refine zs_lv [2, 1, 0] rfl ?_
      refine lp_mnm mo e bt D rf rn g1 w1 (nxt bt n L t).2.2.2.1 hv1 hw1 (by omega) hD.2.2.2.1 hRd.2.1 (mFind D.2.2.1 (nxt bt n L t).2.2.2.1 (D.1 0) 0) (fun i hi hWW => ?_) (fun hWW => ?_) (D.1 0) 0 (Nat.zero_add _) rfl
      · skip
        refine zs_aload_n dX13_readMan_57 rfl rfl ?_
        refine zs_iconst (v := nI 3) dX13_readMan_58 (by decide) ?_
        refine zs_callV (M := mX13_bad) (As := [.int (nI 3)]) (st := []) (Kc := [(mo, .inr (11, fMo e g1 w1))]) (Kr := [((e 1), .inl (0, 740, .inl (nF bt))), ((e 15), .inl (0, 200, .inl rf)), ((e 19), .inl (2, 12, .inr (.inl rn)))]) [0] [1, 2, 3] 0 dX13_readMan_59 zl_RX13_216 kX13_bad rfl rfl rfl rfl rfl (by decide) rfl rfl (show dd - 1 + 1 ≤ dd by omega) (Nat.zero_le _) (Nat.zero_le _) (Nat.le_of_ble_eq_true rfl) (s_mBad l (dd - 1) mo e g1 w1 n L (nxt bt n L t) 3 hT1 (nxt_W (b := bt) (n := n) (L := L) (τ := t)) hO_1) (fun r K1 hr => ?_)
        rw [mBad_e (by first | (intro; rfl) | (intro h; unfold mKd at h; split at h <;> omega))] at hr
        obtain ⟨rfl, rfl⟩ := hr
        refine zs_K (K' := [(mo, .inr (11, fMo e (mFa g1 3 (nxt bt n L t)) w1)), ((e 1), .inl (0, 740, .inl (nF bt))), ((e 15), .inl (0, 200, .inl rf)), ((e 19), .inl (2, 12, .inr (.inl rn)))]) [3, 0, 1, 2] rfl (by decide) ?_
        have e1 : (pMan bt n L t tk D).1 = 3 ∧ (pMan bt n L t tk D).2.1 = (nxt bt n L t) := by rw [pMan, if_neg (show ¬ 12 ≤ D.1 0 by omega), if_neg (show ¬ tNm (nxt bt n L t) = false from fun h => by rw [hname] at h; exact absurd h (by decide)), if_pos (show ¬ mFind D.2.2.1 (nxt bt n L t).2.2.2.1 (D.1 0) 0 = none from fun h => by rw [hWW] at h; exact absurd h (by simp))]; exact ⟨rfl, rfl⟩
        exact zs_zret dX13_readMan_62 rfl (Or.inl rfl) (Or.inr ⟨by rw [e1.1]; exact (show ¬ 3 = 0 by decide), rfl, mFa g1 3 (nxt bt n L t), w1, rf, rn, mFr_fa fr1 (by decide) (by decide), by rw [e1.1]; rfl, by rw [e1.2]; rfl, rfl⟩)
      · skip
        refine zs_aload_n dX13_readMan_69 rfl rfl ?_
        refine zs_get 0 dX13_readMan_70 zf_RX13_29 rfl (v := .ref (e 19)) rfl ?_
        refine zs_iload_n dX13_readMan_73 rfl ?_
        refine zs_aload_n dX13_readMan_74 rfl rfl ?_
        refine zs_get 0 dX13_readMan_75 zf_RX13_183 rfl (v := .long w1) rfl ?_
        refine zs_last 3 dX13_readMan_78 rfl (vp_in_nI (by omega) (by omega)) ?_
        rw [nI_c (n := D.1 0) (by omega)]
        show zS _ _ _ _ _ _ [(mo, .inr (11, fMo e g1 w1)), ((e 1), .inl (0, 740, .inl (nF bt))), ((e 15), .inl (0, 200, .inl rf)), ((e 19), .inl (2, 12, .inr (.inl (vp_updL rn (D.1 0) w1))))]
        refine zs_aload_n dX13_readMan_79 rfl rfl ?_
        refine zs_callV (M := mX13_go) (As := []) (st := []) (Kc := [(mo, .inr (11, fMo e g1 w1)), ((e 1), .inl (0, 740, .inl (nF bt)))]) (Kr := [((e 15), .inl (0, 200, .inl rf)), ((e 19), .inl (2, 12, .inr (.inl (vp_updL rn (D.1 0) w1))))]) [0, 1] [2, 3] 0 dX13_readMan_80 zl_RX13_226 kX13_go rfl rfl rfl rfl rfl (by decide) rfl rfl (show dd - 1 + 1 ≤ dd by omega) (Nat.zero_le _) (Nat.zero_le _) (Nat.le_of_ble_eq_true rfl) (s_mGoT l (dd - 1) mo e g1 w1 n L bt (nxt bt n L t) (by omega) hn hL hbt h3_1 h4_1 hT1 (nxt_W (b := bt) (n := n) (L := L) (τ := t)) (show ¬ (nxt bt n L t).1 = 0 by omega)) (fun r K1 hr => ?_)
        obtain ⟨rfl, g2, w2, hfr2, hT2, rfl⟩ := hr
        refine zs_K (K' := [(mo, .inr (11, fMo e g2 w2)), ((e 1), .inl (0, 740, .inl (nF bt))), ((e 15), .inl (0, 200, .inl rf)), ((e 19), .inl (2, 12, .inr (.inl (vp_updL rn (D.1 0) w1))))]) [2, 3, 0, 1] rfl (by decide) ?_
        have fr2 : mFr [5, 6, 7, 8, 9, 13, 23] g g2 := mFr_t (fr1 : mFr [5, 6, 7, 8, 9, 13, 23] g g1) hfr2 (by decide) (by decide)
        have h3_2 : g2 3 = nI n := (hfr2 3 (by decide)).trans h3_1
        have h4_2 : g2 4 = nI L := (hfr2 4 (by decide)).trans h4_1
        have h23_2 : g2 23 = g1 23 := hfr2 23 (by decide)
        have hO_2 := nxt_OK (L := L) (τ := (nxt bt n L t)) hbt hn
        have h14_2 := hO_2.1
        have hkd_2 := mKd_4 (n := n) (L := L) hO_2.1
        refine zs_iconst (v := nI 0) dX13_readMan_83 (by decide) ?_
        refine zs_istore_n (lv' := [(2, .int (nI 0)), (0, .ref mo), (1, .int (nI (D.1 0)))]) dX13_readMan_84 (Nat.le_of_ble_eq_true rfl) rfl ?_
        refine zs_iload_n dX13_readMan_85 rfl ?_
        refine zs_iconst (v := nI 2) dX13_readMan_86 (by decide) ?_
        refine zs_icmp_gt (tgt := 135) dX13_readMan_87 (by decide) (fun c_3 => (by first | exact absurd c_3 (by decide) | exact absurd (by decide) c_3 : False).elim) (fun c_3 => ?_)
        refine zs_aload_n dX13_readMan_90 rfl rfl ?_
        refine zs_iconst (v := nI 1) dX13_readMan_91 (by decide) ?_
        refine zs_iload_n dX13_readMan_92 rfl ?_
        refine zs_iconst (v := nI 2) dX13_readMan_93 (by decide) ?_
        refine zs_icmp_ne (tgt := 102) dX13_readMan_94 (by decide) (fun c_4 => ?_) (fun c_4 => (by first | exact absurd c_4 (by decide) | exact absurd (by decide) c_4 : False).elim)
        refine zs_bipush (v := nI 9) dX13_readMan_102 (by decide) ?_
        refine zs_callV (M := mX13_readNumber) (As := [.int (nI 1), .int (nI 9)]) (st := []) (Kc := [(mo, .inr (11, fMo e g2 w2)), ((e 1), .inl (0, 740, .inl (nF bt)))]) (Kr := [((e 15), .inl (0, 200, .inl rf)), ((e 19), .inl (2, 12, .inr (.inl (vp_updL rn (D.1 0) w1))))]) [0, 1] [2, 3] 0 dX13_readMan_104 zl_RX13_251 kX13_readNumber rfl rfl rfl rfl rfl (by decide) rfl rfl (show dd - 1 + 1 ≤ dd by omega) (Nat.zero_le _) (Nat.zero_le _) (Nat.le_of_ble_eq_true rfl) (s_mReadNumber l (dd - 1) mo e g2 w2 n L bt (nxt bt n L (nxt bt n L t)) 1 9 (by omega) hn hL hbt h3_2 h4_2 hT2 (nxt_W (b := bt) (n := n) (L := L) (τ := (nxt bt n L t))) hO_2 (by omega) (by omega)) (fun r K1 hr => ?_)
        rcases hr with ⟨hq3, rfl, g3, w3, hfr3, h13_3, hT3, rfl⟩ | ⟨hq3, rfl, rfl⟩
        · refine zs_K (K' := [(mo, .inr (11, fMo e g3 w3)), ((e 1), .inl (0, 740, .inl (nF bt))), ((e 15), .inl (0, 200, .inl rf)), ((e 19), .inl (2, 12, .inr (.inl (vp_updL rn (D.1 0) w1))))]) [2, 3, 0, 1] rfl (by decide) ?_
          have fr3 : mFr [5, 6, 7, 8, 9, 13, 23] g g3 := mFr_t (fr2 : mFr [5, 6, 7, 8, 9, 13, 23] g g2) hfr3 (by decide) (by decide)
          have h3_3 : g3 3 = nI n := (hfr3 3 (by decide)).trans h3_2
          have h4_3 : g3 4 = nI L := (hfr3 4 (by decide)).trans h4_2
          have h23_3 : g3 23 = g2 23 := hfr3 23 (by decide)
          have hO_3 := nxt_OK (L := L) (τ := (nxt bt n L (nxt bt n L t))) hbt hn
          have h14_3 := hO_3.1
          have hkd_3 := mKd_4 (n := n) (L := L) hO_3.1
          have hr3 := tNu_r hq3
          refine zs_if_ne (tgt := 112) dX13_readMan_107 (by decide) (fun c_5 => ?_) (fun c_5 => (by first | exact absurd c_5 (by decide) | exact absurd (by decide) c_5 : False).elim)
          refine zs_aload_n dX13_readMan_112 rfl rfl ?_
          refine zs_get 0 dX13_readMan_113 zf_RX13_16 rfl (v := .ref (e 15)) rfl ?_
          refine zs_bipush (v := nI 20) dX13_readMan_116 (by decide) ?_
          refine zs_iconst (v := nI 3) dX13_readMan_118 (by decide) ?_
          refine zs_iload_n dX13_readMan_119 rfl ?_
          refine zs_imul dX13_readMan_120 ?_
          refine zs_as (y := nI (3 * (D.1 0))) (nI_mul _ _) ?_
          refine zs_iadd dX13_readMan_121 ?_
          refine zs_as (y := nI (20 + (3 * (D.1 0)))) (nI_add _ _) ?_
          refine zs_iload_n dX13_readMan_122 rfl ?_
          refine zs_iadd dX13_readMan_123 ?_
          refine zs_as (y := nI ((20 + (3 * (D.1 0))) + 0)) (nI_add _ _) ?_
          refine zs_aload_n dX13_readMan_124 rfl rfl ?_
          refine zs_get 0 dX13_readMan_125 zf_RX13_223 rfl (v := .int (g3 13)) rfl ?_
          refine zs_as (y := nI (nxt bt n L (nxt bt n L t)).2.2.2.1) h13_3 ?_
          refine zs_iast 2 dX13_readMan_128 rfl (vp_in_nI (by omega) (by omega)) ?_
          rw [nI_c (n := (20 + (3 * (D.1 0))) + 0) (by omega)]
          show zS _ _ _ _ _ _ [(mo, .inr (11, fMo e g3 w3)), ((e 1), .inl (0, 740, .inl (nF bt))), ((e 15), .inl (0, 200, .inl (upd rf ((20 + (3 * (D.1 0))) + 0) (nI (nxt bt n L (nxt bt n L t)).2.2.2.1)))), ((e 19), .inl (2, 12, .inr (.inl (vp_updL rn (D.1 0) w1))))]
          refine zs_iinc (v := (nI 1)) (lv' := [(2, .int (nI 1)), (0, .ref mo), (1, .int (nI (D.1 0)))]) dX13_readMan_129 rfl (nI_add _ 1) (Nat.le_of_ble_eq_true rfl) rfl ?_
          refine zs_goto (tgt := 85) dX13_readMan_132 (by decide) ?_
          refine zs_iload_n dX13_readMan_85 rfl ?_
          refine zs_iconst (v := nI 2) dX13_readMan_86 (by decide) ?_
          refine zs_icmp_gt (tgt := 135) dX13_readMan_87 (by decide) (fun c_6 => (by first | exact absurd c_6 (by decide) | exact absurd (by decide) c_6 : False).elim) (fun c_6 => ?_)
          refine zs_aload_n dX13_readMan_90 rfl rfl ?_
          refine zs_iconst (v := nI 1) dX13_readMan_91 (by decide) ?_
          refine zs_iload_n dX13_readMan_92 rfl ?_
          refine zs_iconst (v := nI 2) dX13_readMan_93 (by decide) ?_
          refine zs_icmp_ne (tgt := 102) dX13_readMan_94 (by decide) (fun c_7 => ?_) (fun c_7 => (by first | exact absurd c_7 (by decide) | exact absurd (by decide) c_7 : False).elim)
          refine zs_bipush (v := nI 9) dX13_readMan_102 (by decide) ?_
          refine zs_callV (M := mX13_readNumber) (As := [.int (nI 1), .int (nI 9)]) (st := []) (Kc := [(mo, .inr (11, fMo e g3 w3)), ((e 1), .inl (0, 740, .inl (nF bt)))]) (Kr := [((e 15), .inl (0, 200, .inl (upd rf ((20 + (3 * (D.1 0))) + 0) (nI (nxt bt n L (nxt bt n L t)).2.2.2.1)))), ((e 19), .inl (2, 12, .inr (.inl (vp_updL rn (D.1 0) w1))))]) [0, 1] [2, 3] 0 dX13_readMan_104 zl_RX13_251 kX13_readNumber rfl rfl rfl rfl rfl (by decide) rfl rfl (show dd - 1 + 1 ≤ dd by omega) (Nat.zero_le _) (Nat.zero_le _) (Nat.le_of_ble_eq_true rfl) (s_mReadNumber l (dd - 1) mo e g3 w3 n L bt (nxt bt n L (nxt bt n L (nxt bt n L t))) 1 9 (by omega) hn hL hbt h3_3 h4_3 hT3 (nxt_W (b := bt) (n := n) (L := L) (τ := (nxt bt n L (nxt bt n L t)))) hO_3 (by omega) (by omega)) (fun r K1 hr => ?_)
          rcases hr with ⟨hq4, rfl, g4, w4, hfr4, h13_4, hT4, rfl⟩ | ⟨hq4, rfl, rfl⟩
          · refine zs_K (K' := [(mo, .inr (11, fMo e g4 w4)), ((e 1), .inl (0, 740, .inl (nF bt))), ((e 15), .inl (0, 200, .inl (upd rf ((20 + (3 * (D.1 0))) + 0) (nI (nxt bt n L (nxt bt n L t)).2.2.2.1)))), ((e 19), .inl (2, 12, .inr (.inl (vp_updL rn (D.1 0) w1))))]) [2, 3, 0, 1] rfl (by decide) ?_
            have fr4 : mFr [5, 6, 7, 8, 9, 13, 23] g g4 := mFr_t (fr3 : mFr [5, 6, 7, 8, 9, 13, 23] g g3) hfr4 (by decide) (by decide)
            have h3_4 : g4 3 = nI n := (hfr4 3 (by decide)).trans h3_3
            have h4_4 : g4 4 = nI L := (hfr4 4 (by decide)).trans h4_3
            have h23_4 : g4 23 = g3 23 := hfr4 23 (by decide)
            have hO_4 := nxt_OK (L := L) (τ := (nxt bt n L (nxt bt n L (nxt bt n L t)))) hbt hn
            have h14_4 := hO_4.1
            have hkd_4 := mKd_4 (n := n) (L := L) hO_4.1
            have hr4 := tNu_r hq4
            refine zs_if_ne (tgt := 112) dX13_readMan_107 (by decide) (fun c_8 => ?_) (fun c_8 => (by first | exact absurd c_8 (by decide) | exact absurd (by decide) c_8 : False).elim)
            refine zs_aload_n dX13_readMan_112 rfl rfl ?_
            refine zs_get 0 dX13_readMan_113 zf_RX13_16 rfl (v := .ref (e 15)) rfl ?_
            refine zs_bipush (v := nI 20) dX13_readMan_116 (by decide) ?_
            refine zs_iconst (v := nI 3) dX13_readMan_118 (by decide) ?_
            refine zs_iload_n dX13_readMan_119 rfl ?_
            refine zs_imul dX13_readMan_120 ?_
            refine zs_as (y := nI (3 * (D.1 0))) (nI_mul _ _) ?_
            refine zs_iadd dX13_readMan_121 ?_
            refine zs_as (y := nI (20 + (3 * (D.1 0)))) (nI_add _ _) ?_
            refine zs_iload_n dX13_readMan_122 rfl ?_
            refine zs_iadd dX13_readMan_123 ?_
            refine zs_as (y := nI ((20 + (3 * (D.1 0))) + 1)) (nI_add _ _) ?_
            refine zs_aload_n dX13_readMan_124 rfl rfl ?_
            refine zs_get 0 dX13_readMan_125 zf_RX13_223 rfl (v := .int (g4 13)) rfl ?_
            refine zs_as (y := nI (nxt bt n L (nxt bt n L (nxt bt n L t))).2.2.2.1) h13_4 ?_
            refine zs_iast 2 dX13_readMan_128 rfl (vp_in_nI (by omega) (by omega)) ?_
            rw [nI_c (n := (20 + (3 * (D.1 0))) + 1) (by omega)]
            show zS _ _ _ _ _ _ [(mo, .inr (11, fMo e g4 w4)), ((e 1), .inl (0, 740, .inl (nF bt))), ((e 15), .inl (0, 200, .inl (upd (upd rf ((20 + (3 * (D.1 0))) + 0) (nI (nxt bt n L (nxt bt n L t)).2.2.2.1)) ((20 + (3 * (D.1 0))) + 1) (nI (nxt bt n L (nxt bt n L (nxt bt n L t))).2.2.2.1)))), ((e 19), .inl (2, 12, .inr (.inl (vp_updL rn (D.1 0) w1))))]
            refine zs_iinc (v := (nI 2)) (lv' := [(2, .int (nI 2)), (0, .ref mo), (1, .int (nI (D.1 0)))]) dX13_readMan_129 rfl (nI_add _ 1) (Nat.le_of_ble_eq_true rfl) rfl ?_
            refine zs_goto (tgt := 85) dX13_readMan_132 (by decide) ?_
            refine zs_iload_n dX13_readMan_85 rfl ?_
            refine zs_iconst (v := nI 2) dX13_readMan_86 (by decide) ?_
            refine zs_icmp_gt (tgt := 135) dX13_readMan_87 (by decide) (fun c_9 => (by first | exact absurd c_9 (by decide) | exact absurd (by decide) c_9 : False).elim) (fun c_9 => ?_)
            refine zs_aload_n dX13_readMan_90 rfl rfl ?_
            refine zs_iconst (v := nI 1) dX13_readMan_91 (by decide) ?_
            refine zs_iload_n dX13_readMan_92 rfl ?_
            refine zs_iconst (v := nI 2) dX13_readMan_93 (by decide) ?_
            refine zs_icmp_ne (tgt := 102) dX13_readMan_94 (by decide) (fun c_10 => (by first | exact absurd c_10 (by decide) | exact absurd (by decide) c_10 : False).elim) (fun c_10 => ?_)
            refine zs_bipush (v := nI 99) dX13_readMan_97 (by decide) ?_
            refine zs_goto (tgt := 104) dX13_readMan_99 (by decide) ?_
            refine zs_callV (M := mX13_readNumber) (As := [.int (nI 1), .int (nI 99)]) (st := []) (Kc := [(mo, .inr (11, fMo e g4 w4)), ((e 1), .inl (0, 740, .inl (nF bt)))]) (Kr := [((e 15), .inl (0, 200, .inl (upd (upd rf ((20 + (3 * (D.1 0))) + 0) (nI (nxt bt n L (nxt bt n L t)).2.2.2.1)) ((20 + (3 * (D.1 0))) + 1) (nI (nxt bt n L (nxt bt n L (nxt bt n L t))).2.2.2.1)))), ((e 19), .inl (2, 12, .inr (.inl (vp_updL rn (D.1 0) w1))))]) [0, 1] [2, 3] 0 dX13_readMan_104 zl_RX13_251 kX13_readNumber rfl rfl rfl rfl rfl (by decide) rfl rfl (show dd - 1 + 1 ≤ dd by omega) (Nat.zero_le _) (Nat.zero_le _) (Nat.le_of_ble_eq_true rfl) (s_mReadNumber l (dd - 1) mo e g4 w4 n L bt (nxt bt n L (nxt bt n L (nxt bt n L (nxt bt n L t)))) 1 99 (by omega) hn hL hbt h3_4 h4_4 hT4 (nxt_W (b := bt) (n := n) (L := L) (τ := (nxt bt n L (nxt bt n L (nxt bt n L t))))) hO_4 (by omega) (by omega)) (fun r K1 hr => ?_)
            rcases hr with ⟨hq5, rfl, g5, w5, hfr5, h13_5, hT5, rfl⟩ | ⟨hq5, rfl, rfl⟩
            · refine zs_K (K' := [(mo, .inr (11, fMo e g5 w5)), ((e 1), .inl (0, 740, .inl (nF bt))), ((e 15), .inl (0, 200, .inl (upd (upd rf ((20 + (3 * (D.1 0))) + 0) (nI (nxt bt n L (nxt bt n L t)).2.2.2.1)) ((20 + (3 * (D.1 0))) + 1) (nI (nxt bt n L (nxt bt n L (nxt bt n L t))).2.2.2.1)))), ((e 19), .inl (2, 12, .inr (.inl (vp_updL rn (D.1 0) w1))))]) [2, 3, 0, 1] rfl (by decide) ?_
              have fr5 : mFr [5, 6, 7, 8, 9, 13, 23] g g5 := mFr_t (fr4 : mFr [5, 6, 7, 8, 9, 13, 23] g g4) hfr5 (by decide) (by decide)
              have h3_5 : g5 3 = nI n := (hfr5 3 (by decide)).trans h3_4
              have h4_5 : g5 4 = nI L := (hfr5 4 (by decide)).trans h4_4
              have h23_5 : g5 23 = g4 23 := hfr5 23 (by decide)
              have hO_5 := nxt_OK (L := L) (τ := (nxt bt n L (nxt bt n L (nxt bt n L (nxt bt n L t))))) hbt hn
              have h14_5 := hO_5.1
              have hkd_5 := mKd_4 (n := n) (L := L) hO_5.1
              have hr5 := tNu_r hq5
              refine zs_if_ne (tgt := 112) dX13_readMan_107 (by decide) (fun c_11 => ?_) (fun c_11 => (by first | exact absurd c_11 (by decide) | exact absurd (by decide) c_11 : False).elim)
              refine zs_aload_n dX13_readMan_112 rfl rfl ?_
              refine zs_get 0 dX13_readMan_113 zf_RX13_16 rfl (v := .ref (e 15)) rfl ?_
              refine zs_bipush (v := nI 20) dX13_readMan_116 (by decide) ?_
              refine zs_iconst (v := nI 3) dX13_readMan_118 (by decide) ?_
              refine zs_iload_n dX13_readMan_119 rfl ?_
              refine zs_imul dX13_readMan_120 ?_
              refine zs_as (y := nI (3 * (D.1 0))) (nI_mul _ _) ?_
              refine zs_iadd dX13_readMan_121 ?_
              refine zs_as (y := nI (20 + (3 * (D.1 0)))) (nI_add _ _) ?_
              refine zs_iload_n dX13_readMan_122 rfl ?_
              refine zs_iadd dX13_readMan_123 ?_
              refine zs_as (y := nI ((20 + (3 * (D.1 0))) + 2)) (nI_add _ _) ?_
              refine zs_aload_n dX13_readMan_124 rfl rfl ?_
              refine zs_get 0 dX13_readMan_125 zf_RX13_223 rfl (v := .int (g5 13)) rfl ?_
              refine zs_as (y := nI (nxt bt n L (nxt bt n L (nxt bt n L (nxt bt n L t)))).2.2.2.1) h13_5 ?_
              refine zs_iast 2 dX13_readMan_128 rfl (vp_in_nI (by omega) (by omega)) ?_
              rw [nI_c (n := (20 + (3 * (D.1 0))) + 2) (by omega)]
              show zS _ _ _ _ _ _ [(mo, .inr (11, fMo e g5 w5)), ((e 1), .inl (0, 740, .inl (nF bt))), ((e 15), .inl (0, 200, .inl (upd (upd (upd rf ((20 + (3 * (D.1 0))) + 0) (nI (nxt bt n L (nxt bt n L t)).2.2.2.1)) ((20 + (3 * (D.1 0))) + 1) (nI (nxt bt n L (nxt bt n L (nxt bt n L t))).2.2.2.1)) ((20 + (3 * (D.1 0))) + 2) (nI (nxt bt n L (nxt bt n L (nxt bt n L (nxt bt n L t)))).2.2.2.1)))), ((e 19), .inl (2, 12, .inr (.inl (vp_updL rn (D.1 0) w1))))]
              refine zs_iinc (v := (nI 3)) (lv' := [(2, .int (nI 3)), (0, .ref mo), (1, .int (nI (D.1 0)))]) dX13_readMan_129 rfl (nI_add _ 1) (Nat.le_of_ble_eq_true rfl) rfl ?_
              refine zs_goto (tgt := 85) dX13_readMan_132 (by decide) ?_
              refine zs_iload_n dX13_readMan_85 rfl ?_
              refine zs_iconst (v := nI 2) dX13_readMan_86 (by decide) ?_
              refine zs_icmp_gt (tgt := 135) dX13_readMan_87 (by decide) (fun c_12 => ?_) (fun c_12 => (by first | exact absurd c_12 (by decide) | exact absurd (by decide) c_12 : False).elim)
              refine zs_aload_n dX13_readMan_135 rfl rfl ?_
              refine zs_get 0 dX13_readMan_136 zf_RX13_16 rfl (v := .ref (e 15)) rfl ?_
              refine zs_iconst (v := nI 0) dX13_readMan_139 (by decide) ?_
              refine zs_dup2 dX13_readMan_140 rfl rfl ?_
              refine zs_iald 2 dX13_readMan_141 rfl (vp_in_nI (by omega) (by omega)) ?_
              refine zs_as (y := nI (D.1 0)) (by rw [nI_c (n := 0) (by omega), upd_x (by omega), upd_x (by omega), upd_x (by omega)]; exact hRd.1.1) ?_
              refine zs_iconst (v := nI 1) dX13_readMan_142 (by decide) ?_
              refine zs_iadd dX13_readMan_143 ?_
              refine zs_as (y := nI ((D.1 0) + 1)) (nI_add _ _) ?_
              refine zs_iast 2 dX13_readMan_144 rfl (vp_in_nI (by omega) (by omega)) ?_
              rw [nI_c (n := 0) (by omega)]
              show zS _ _ _ _ _ _ [(mo, .inr (11, fMo e g5 w5)), ((e 1), .inl (0, 740, .inl (nF bt))), ((e 15), .inl (0, 200, .inl (upd (upd (upd (upd rf ((20 + (3 * (D.1 0))) + 0) (nI (nxt bt n L (nxt bt n L t)).2.2.2.1)) ((20 + (3 * (D.1 0))) + 1) (nI (nxt bt n L (nxt bt n L (nxt bt n L t))).2.2.2.1)) ((20 + (3 * (D.1 0))) + 2) (nI (nxt bt n L (nxt bt n L (nxt bt n L (nxt bt n L t)))).2.2.2.1)) 0 (nI ((D.1 0) + 1))))), ((e 19), .inl (2, 12, .inr (.inl (vp_updL rn (D.1 0) w1))))]
              refine zs_iconst (v := nI 1) dX13_readMan_145 (by decide) ?_
              have er : (pMan bt n L t tk D) = (0, (nxt bt n L (nxt bt n L (nxt bt n L (nxt bt n L (nxt bt n L t))))), (nxt bt n L (nxt bt n L (nxt bt n L (nxt bt n L t)))).2.2.2.1, (un D.1 0 (D.1 0 + 1), D.2.1, un D.2.2.1 (D.1 0) (nxt bt n L t).2.2.2.1, un D.2.2.2.1 (D.1 0) (nxt bt n L (nxt bt n L t)).2.2.2.1, un D.2.2.2.2.1 (D.1 0) (nxt bt n L (nxt bt n L (nxt bt n L t))).2.2.2.1, un D.2.2.2.2.2.1 (D.1 0) (nxt bt n L (nxt bt n L (nxt bt n L (nxt bt n L t)))).2.2.2.1, D.2.2.2.2.2.2)) := by rw [pMan, if_neg (show ¬ 12 ≤ D.1 0 by omega), if_neg (show ¬ tNm (nxt bt n L t) = false from fun h => by rw [hname] at h; exact absurd h (by decide)), if_neg (fun h => h hWW), pNu_bo hq3, pNu_bo hq4, pNu_bo hq5] <;> rfl
              exact zs_zret dX13_readMan_146 rfl (Or.inr rfl) (Or.inl ⟨by rw [er], rfl, g5, w5, (upd (upd (upd (upd rf ((20 + (3 * (D.1 0))) + 0) (nI (nxt bt n L (nxt bt n L t)).2.2.2.1)) ((20 + (3 * (D.1 0))) + 1) (nI (nxt bt n L (nxt bt n L (nxt bt n L t))).2.2.2.1)) ((20 + (3 * (D.1 0))) + 2) (nI (nxt bt n L (nxt bt n L (nxt bt n L (nxt bt n L t)))).2.2.2.1)) 0 (nI ((D.1 0) + 1))), (vp_updL rn (D.1 0) w1), fr5, by rw [er]; exact hT5, by rw [er]; exact nxt_W, by rw [er]; exact (rdR_man (by omega) hRd (h23_5.trans (h23_4.trans (h23_3.trans (h23_2.trans h23_1)))) hw1), rfl⟩)
            · refine zs_K (K' := [(mo, .inr (11, fMo e (mFa g4 (tNu (nxt bt n L (nxt bt n L (nxt bt n L (nxt bt n L t)))) 1 99) (nxt bt n L (nxt bt n L (nxt bt n L (nxt bt n L t))))) w4)), ((e 1), .inl (0, 740, .inl (nF bt))), ((e 15), .inl (0, 200, .inl (upd (upd rf ((20 + (3 * (D.1 0))) + 0) (nI (nxt bt n L (nxt bt n L t)).2.2.2.1)) ((20 + (3 * (D.1 0))) + 1) (nI (nxt bt n L (nxt bt n L (nxt bt n L t))).2.2.2.1)))), ((e 19), .inl (2, 12, .inr (.inl (vp_updL rn (D.1 0) w1))))]) [2, 3, 0, 1] rfl (by decide) ?_
              refine zs_if_ne (tgt := 112) dX13_readMan_107 (by decide) (fun c_13 => (by first | exact absurd c_13 (by decide) | exact absurd (by decide) c_13 : False).elim) (fun c_13 => ?_)
              refine zs_iconst (v := nI 0) dX13_readMan_110 (by decide) ?_
              have e1 : (pMan bt n L t tk D).1 = (tNu (nxt bt n L (nxt bt n L (nxt bt n L (nxt bt n L t)))) 1 99) ∧ (pMan bt n L t tk D).2.1 = (nxt bt n L (nxt bt n L (nxt bt n L (nxt bt n L t)))) := by rw [pMan, if_neg (show ¬ 12 ≤ D.1 0 by omega), if_neg (show ¬ tNm (nxt bt n L t) = false from fun h => by rw [hname] at h; exact absurd h (by decide)), if_neg (fun h => h hWW), pNu_bo hq3, pNu_bo hq4, pNu_bn hq5]; exact ⟨rfl, rfl⟩
              exact zs_zret dX13_readMan_111 rfl (Or.inl rfl) (Or.inr ⟨by rw [e1.1]; exact hq5, rfl, mFa g4 (tNu (nxt bt n L (nxt bt n L (nxt bt n L (nxt bt n L t)))) 1 99) (nxt bt n L (nxt bt n L (nxt bt n L (nxt bt n L t)))), w4, (upd (upd rf ((20 + (3 * (D.1 0))) + 0) (nI (nxt bt n L (nxt bt n L t)).2.2.2.1)) ((20 + (3 * (D.1 0))) + 1) (nI (nxt bt n L (nxt bt n L (nxt bt n L t))).2.2.2.1)), (vp_updL rn (D.1 0) w1), mFr_fa fr4 (by decide) (by decide), by rw [e1.1]; rfl, by rw [e1.2]; rfl, rfl⟩)
          · refine zs_K (K' := [(mo, .inr (11, fMo e (mFa g3 (tNu (nxt bt n L (nxt bt n L (nxt bt n L t))) 1 9) (nxt bt n L (nxt bt n L (nxt bt n L t)))) w3)), ((e 1), .inl (0, 740, .inl (nF bt))), ((e 15), .inl (0, 200, .inl (upd rf ((20 + (3 * (D.1 0))) + 0) (nI (nxt bt n L (nxt bt n L t)).2.2.2.1)))), ((e 19), .inl (2, 12, .inr (.inl (vp_updL rn (D.1 0) w1))))]) [2, 3, 0, 1] rfl (by decide) ?_
            refine zs_if_ne (tgt := 112) dX13_readMan_107 (by decide) (fun c_14 => (by first | exact absurd c_14 (by decide) | exact absurd (by decide) c_14 : False).elim) (fun c_14 => ?_)
            refine zs_iconst (v := nI 0) dX13_readMan_110 (by decide) ?_
            have e1 : (pMan bt n L t tk D).1 = (tNu (nxt bt n L (nxt bt n L (nxt bt n L t))) 1 9) ∧ (pMan bt n L t tk D).2.1 = (nxt bt n L (nxt bt n L (nxt bt n L t))) := by rw [pMan, if_neg (show ¬ 12 ≤ D.1 0 by omega), if_neg (show ¬ tNm (nxt bt n L t) = false from fun h => by rw [hname] at h; exact absurd h (by decide)), if_neg (fun h => h hWW), pNu_bo hq3, pNu_bn hq4]; exact ⟨rfl, rfl⟩
            exact zs_zret dX13_readMan_111 rfl (Or.inl rfl) (Or.inr ⟨by rw [e1.1]; exact hq4, rfl, mFa g3 (tNu (nxt bt n L (nxt bt n L (nxt bt n L t))) 1 9) (nxt bt n L (nxt bt n L (nxt bt n L t))), w3, (upd rf ((20 + (3 * (D.1 0))) + 0) (nI (nxt bt n L (nxt bt n L t)).2.2.2.1)), (vp_updL rn (D.1 0) w1), mFr_fa fr3 (by decide) (by decide), by rw [e1.1]; rfl, by rw [e1.2]; rfl, rfl⟩)
        · refine zs_K (K' := [(mo, .inr (11, fMo e (mFa g2 (tNu (nxt bt n L (nxt bt n L t)) 1 9) (nxt bt n L (nxt bt n L t))) w2)), ((e 1), .inl (0, 740, .inl (nF bt))), ((e 15), .inl (0, 200, .inl rf)), ((e 19), .inl (2, 12, .inr (.inl (vp_updL rn (D.1 0) w1))))]) [2, 3, 0, 1] rfl (by decide) ?_
          refine zs_if_ne (tgt := 112) dX13_readMan_107 (by decide) (fun c_15 => (by first | exact absurd c_15 (by decide) | exact absurd (by decide) c_15 : False).elim) (fun c_15 => ?_)
          refine zs_iconst (v := nI 0) dX13_readMan_110 (by decide) ?_
          have e1 : (pMan bt n L t tk D).1 = (tNu (nxt bt n L (nxt bt n L t)) 1 9) ∧ (pMan bt n L t tk D).2.1 = (nxt bt n L (nxt bt n L t)) := by rw [pMan, if_neg (show ¬ 12 ≤ D.1 0 by omega), if_neg (show ¬ tNm (nxt bt n L t) = false from fun h => by rw [hname] at h; exact absurd h (by decide)), if_neg (fun h => h hWW), pNu_bn hq3]; exact ⟨rfl, rfl⟩
          exact zs_zret dX13_readMan_111 rfl (Or.inl rfl) (Or.inr ⟨by rw [e1.1]; exact hq3, rfl, mFa g2 (tNu (nxt bt n L (nxt bt n L t)) 1 9) (nxt bt n L (nxt bt n L t)), w2, rf, (vp_updL rn (D.1 0) w1), mFr_fa fr2 (by decide) (by decide), by rw [e1.1]; rfl, by rw [e1.2]; rfl, rfl⟩)
    · refine zs_aload_n dX13_readMan_30 rfl rfl ?_
      refine zs_iconst (v := nI 1) dX13_readMan_31 (by decide) ?_
      refine zs_callV (M := mX13_bad) (As := [.int (nI 1)]) (st := []) (Kc := [(mo, .inr (11, fMo e g1 w1))]) (Kr := [((e 1), .inl (0, 740, .inl (nF bt))), ((e 15), .inl (0, 200, .inl rf)), ((e 19), .inl (2, 12, .inr (.inl rn)))]) [0] [1, 2, 3] 0 dX13_readMan_32 zl_RX13_216 kX13_bad rfl rfl rfl rfl rfl (by decide) rfl rfl (show dd - 1 + 1 ≤ dd by omega) (Nat.zero_le _) (Nat.zero_le _) (Nat.le_of_ble_eq_true rfl) (s_mBad l (dd - 1) mo e g1 w1 n L (nxt bt n L t) 1 hT1 (nxt_W (b := bt) (n := n) (L := L) (τ := t)) hO_1) (fun r K1 hr => ?_)
      rw [mBad_e (by first | (intro; rfl) | (intro h; unfold mKd at h; split at h <;> omega))] at hr
      obtain ⟨rfl, rfl⟩ := hr
      refine zs_K (K' := [(mo, .inr (11, fMo e (mFa g1 1 (nxt bt n L t)) w1)), ((e 1), .inl (0, 740, .inl (nF bt))), ((e 15), .inl (0, 200, .inl rf)), ((e 19), .inl (2, 12, .inr (.inl rn)))]) [3, 0, 1, 2] rfl (by decide) ?_
      have e1 : (pMan bt n L t tk D).1 = 1 ∧ (pMan bt n L t tk D).2.1 = (nxt bt n L t) := by rw [pMan, if_neg (show ¬ 12 ≤ D.1 0 by omega), if_pos (bI_f c_2)]; exact ⟨rfl, rfl⟩
      exact zs_zret dX13_readMan_35 rfl (Or.inl rfl) (Or.inr ⟨by rw [e1.1]; exact (show ¬ 1 = 0 by decide), rfl, mFa g1 1 (nxt bt n L t), w1, rf, rn, mFr_fa fr1 (by decide) (by decide), by rw [e1.1]; rfl, by rw [e1.2]; rfl, rfl⟩)
  · have c_1 : (D.1 0) = 12 := by have hc := c_1; rw [nI_eq' (by omega) (by omega)] at hc; exact hc
    refine zs_aload_n dX13_readMan_13 rfl rfl ?_
    refine zs_iconst (v := nI 4) dX13_readMan_14 (by decide) ?_
    refine zs_callV (M := mX13_bad) (As := [.int (nI 4)]) (st := []) (Kc := [(mo, .inr (11, fMo e g w))]) (Kr := [((e 1), .inl (0, 740, .inl (nF bt))), ((e 15), .inl (0, 200, .inl rf)), ((e 19), .inl (2, 12, .inr (.inl rn)))]) [0] [1, 2, 3] 0 dX13_readMan_15 zl_RX13_216 kX13_bad rfl rfl rfl rfl rfl (by decide) rfl rfl (show dd - 1 + 1 ≤ dd by omega) (Nat.zero_le _) (Nat.zero_le _) (Nat.le_of_ble_eq_true rfl) (s_mBad l (dd - 1) mo e g w n L t 4 hT hW hO) (fun r K1 hr => ?_)
    rw [mBad_e (by first | (intro; rfl) | (intro h; unfold mKd at h; split at h <;> omega))] at hr
    obtain ⟨rfl, rfl⟩ := hr
    refine zs_K (K' := [(mo, .inr (11, fMo e (mFa g 4 t) w)), ((e 1), .inl (0, 740, .inl (nF bt))), ((e 15), .inl (0, 200, .inl rf)), ((e 19), .inl (2, 12, .inr (.inl rn)))]) [3, 0, 1, 2] rfl (by decide) ?_
    have e1 : (pMan bt n L t tk D).1 = 4 ∧ (pMan bt n L t tk D).2.1 = t := by rw [pMan, if_pos (show 12 ≤ D.1 0 by omega)]; exact ⟨rfl, rfl⟩
    exact zs_zret dX13_readMan_18 rfl (Or.inl rfl) (Or.inr ⟨by rw [e1.1]; exact (show ¬ 4 = 0 by decide), rfl, mFa g 4 t, w, rf, rn, mFr_fa mFr_r (by decide) (by decide), by rw [e1.1]; rfl, by rw [e1.2]; rfl, rfl⟩)
