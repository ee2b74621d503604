/-! ===== the reference: numbers, ends, a text begun ===== -/
def mFa (g : Nat → Int32) (k : Nat) (t : zTk) : Nat → Int32 := upd (upd g 10 (nI k)) 11 (nI t.2.1)
theorem mBad_e {n L k : Nat} {t : zTk} {g : Nat → Int32} (h : mKd n L t = 1 → k = 1) : mBad n L t k g = mFa g k t := by
  unfold mBad mFa
  split
  · rename_i h1
    rw [h h1]
  · rfl
theorem s_mGoT (l : Launch) (dd : Nat) (mo : Nat) (e : Nat → Nat) (g : Nat → Int32) (w : Int64) (n L : Nat) (bt : Nat → Nat) (t : zTk) (hd : 1 ≤ dd) (hn : n ≤ 740) (hL : L ≤ 740) (hbt : ∀ j, bt j < 256) (h3 : g 3 = nI n) (h4 : g 4 = nI L) (hT : mTk n L t g w) (hW : tW n L t) (h0 : ¬ t.1 = 0) : zSp l mX13_go dd 0 0 [.ref mo] [(mo, .inr (11, fMo e g w)), ((e 1), .inl (0, 740, .inl (nF bt)))] (fun r K' => r = none ∧ ∃ g' w', mFr [5, 6, 7, 8, 9] g g' ∧ mTk n L (nxt bt n L t) g' w' ∧ K' = [(mo, .inr (11, fMo e g' w'))] ++ [((e 1), .inl (0, 740, .inl (nF bt)))]) :=
  (s_mGo l dd mo e g w n L bt t.2.2.1 hd hn hL hbt h3 h4 (hT.2.1 h0).2.2 (hW.2.2.2 h0)).weaken (fun r K' hh => by
    obtain ⟨h1, g', w', a, b, c⟩ := hh
    exact ⟨h1, g', w', a, b t.2.2.2.1, c⟩)
theorem dX13_readNumber_0 : decode cX13_readNumber 0 = .ok (.aload_n 0, 1) := by decide +kernel
theorem dX13_readNumber_1 : decode cX13_readNumber 1 = .ok (.getfield 170, 3) := by decide +kernel
theorem dX13_readNumber_4 : decode cX13_readNumber 4 = .ok (.iconst 3, 1) := by decide +kernel
theorem dX13_readNumber_5 : decode cX13_readNumber 5 = .ok (.if_icmp .eq 9, 3) := by decide +kernel
theorem dX13_readNumber_8 : decode cX13_readNumber 8 = .ok (.aload_n 0, 1) := by decide +kernel
theorem dX13_readNumber_9 : decode cX13_readNumber 9 = .ok (.iconst 1, 1) := by decide +kernel
theorem dX13_readNumber_10 : decode cX13_readNumber 10 = .ok (.invokevirtual 216, 3) := by decide +kernel
theorem dX13_readNumber_13 : decode cX13_readNumber 13 = .ok (.ireturn, 1) := by decide +kernel
theorem dX13_readNumber_14 : decode cX13_readNumber 14 = .ok (.aload_n 0, 1) := by decide +kernel
theorem dX13_readNumber_15 : decode cX13_readNumber 15 = .ok (.getfield 187, 3) := by decide +kernel
theorem dX13_readNumber_18 : decode cX13_readNumber 18 = .ok (.iload_n 1, 1) := by decide +kernel
theorem dX13_readNumber_19 : decode cX13_readNumber 19 = .ok (.iload_n 2, 1) := by decide +kernel
theorem dX13_readNumber_20 : decode cX13_readNumber 20 = .ok (.invokestatic 219, 3) := by decide +kernel
theorem dX13_readNumber_23 : decode cX13_readNumber 23 = .ok (.ifCond .ne 9, 3) := by decide +kernel
theorem dX13_readNumber_26 : decode cX13_readNumber 26 = .ok (.aload_n 0, 1) := by decide +kernel
theorem dX13_readNumber_27 : decode cX13_readNumber 27 = .ok (.iconst 2, 1) := by decide +kernel
theorem dX13_readNumber_28 : decode cX13_readNumber 28 = .ok (.invokevirtual 216, 3) := by decide +kernel
theorem dX13_readNumber_31 : decode cX13_readNumber 31 = .ok (.ireturn, 1) := by decide +kernel
theorem dX13_readNumber_32 : decode cX13_readNumber 32 = .ok (.aload_n 0, 1) := by decide +kernel
theorem dX13_readNumber_33 : decode cX13_readNumber 33 = .ok (.aload_n 0, 1) := by decide +kernel
theorem dX13_readNumber_34 : decode cX13_readNumber 34 = .ok (.getfield 187, 3) := by decide +kernel
theorem dX13_readNumber_37 : decode cX13_readNumber 37 = .ok (.putfield 223, 3) := by decide +kernel
theorem dX13_readNumber_40 : decode cX13_readNumber 40 = .ok (.aload_n 0, 1) := by decide +kernel
theorem dX13_readNumber_41 : decode cX13_readNumber 41 = .ok (.invokevirtual 226, 3) := by decide +kernel
theorem dX13_readNumber_44 : decode cX13_readNumber 44 = .ok (.iconst 1, 1) := by decide +kernel
theorem dX13_readNumber_45 : decode cX13_readNumber 45 = .ok (.ireturn, 1) := by decide +kernel
theorem tNu_22 {t : zTk} {lo hi : Nat} (h : t.1 = 3) (h2 : ¬ (¬ t.2.2.2.1 < lo ∧ ¬ hi < t.2.2.2.1)) : tNu t lo hi = 2 := by
  rw [tNu, if_pos h]
  by_cases q : t.2.2.2.1 < lo
  · rw [if_pos q]
  · rw [if_neg q, if_pos (Decidable.byContradiction (fun z => h2 ⟨q, z⟩))]
theorem mFr_13 {g g' : Nat → Int32} {v : Int32} (h : mFr [5, 6, 7, 8, 9] (upd g 13 v) g') : mFr [5, 6, 7, 8, 9, 13] g g' := fun j hj => by
  have h1 : j ≠ 13 := fun e => hj (by rw [e]; decide)
  rw [h j (fun hm => hj (by revert hm; simp; omega))]
  exact if_neg h1
set_option maxRecDepth 100000 in
theorem s_mReadNumber (l : Launch) (dd : Nat) (mo : Nat) (e : Nat → Nat) (g : Nat → Int32) (w : Int64) (n L : Nat) (bt : Nat → Nat) (t : zTk) (lo hi : Nat) (hd : 2 ≤ dd) (hn : n ≤ 740) (hL : L ≤ 740) (hbt : ∀ j, bt j < 256) (h3 : g 3 = nI n) (h4 : g 4 = nI L) (hT : mTk n L t g w) (hW : tW n L t) (hO : tOK t) (hlo : lo ≤ 99999999) (hhi : hi < 2147483648) : zSp l mX13_readNumber dd 0 0 [.ref mo, .int (nI lo), .int (nI hi)] [(mo, .inr (11, fMo e g w)), ((e 1), .inl (0, 740, .inl (nF bt)))] (fun r K' => (tNu t lo hi = 0 ∧ r = some (.int 1) ∧ ∃ g' w', mFr [5, 6, 7, 8, 9, 13] g g' ∧ g' 13 = nI t.2.2.2.1 ∧ mTk n L (nxt bt n L t) g' w' ∧ K' = [(mo, .inr (11, fMo e g' w'))] ++ [((e 1), .inl (0, 740, .inl (nF bt)))]) ∨ (¬ tNu t lo hi = 0 ∧ r = some (.int 0) ∧ K' = [(mo, .inr (11, fMo e (mFa g (tNu t lo hi) t) w))] ++ [((e 1), .inl (0, 740, .inl (nF bt)))])) := by
  refine zSp.of (by decide) (Nat.le_of_ble_eq_true rfl) (fun h0 => ?_)
  show zS _ 0 0 0 [(0, .ref mo), (1, .int (nI lo)), (2, .int (nI hi))] [] [(mo, .inr (11, fMo e g w)), ((e 1), .inl (0, 740, .inl (nF bt)))]
  have h14 := hO.1
  have hk4 := mKd_4 (n := n) (L := L) hO.1
  refine zs_aload_n dX13_readNumber_0 rfl rfl ?_
  refine zs_get 0 dX13_readNumber_1 zf_RX13_170 rfl (v := .int (g 7)) rfl ?_
  refine zs_as (y := nI (mKd n L t)) (mTk_7 hT) ?_
  refine zs_iconst (v := nI 3) dX13_readNumber_4 (by decide) ?_
  refine zs_icmp_eq (tgt := 14) dX13_readNumber_5 (by decide) (fun c_1 => ?_) (fun c_1 => ?_)
  · have c_1 : (mKd n L t) = 3 := by have hc := c_1; rw [nI_eq' (by omega) (by omega)] at hc; exact hc
    have h3k : t.1 = 3 := (mKd_n (by decide)).mp c_1
    have hv9 := hO.2.2.2.2.1 h3k
    have h0 : ¬ t.1 = 0 := by omega
    refine zs_aload_n dX13_readNumber_14 rfl rfl ?_
    refine zs_get 0 dX13_readNumber_15 zf_RX13_187 rfl (v := .int (g 8)) rfl ?_
    refine zs_iload_n dX13_readNumber_18 rfl ?_
    refine zs_iload_n dX13_readNumber_19 rfl ?_
    refine zs_callS (M := mX13_isIn) (As := [.int (g 8), .int (nI lo), .int (nI hi)]) (st := []) (Kc := []) (Kr := [(mo, .inr (11, fMo e g w)), ((e 1), .inl (0, 740, .inl (nF bt)))]) [] [0, 1] dX13_readNumber_20 zl_RX13_219 kX13_isIn rfl rfl rfl rfl rfl (by decide) (show dd - 1 + 1 ≤ dd by omega) (Nat.zero_le _) (Nat.zero_le _) (Nat.le_of_ble_eq_true rfl) (s_mIsIn l (dd - 1) (g 8) (nI lo) (nI hi)) (fun r K1 hr => ?_)
    obtain ⟨rfl, rfl⟩ := hr
    refine zs_K (K' := [(mo, .inr (11, fMo e g w)), ((e 1), .inl (0, 740, .inl (nF bt)))]) [0, 1] rfl (by decide) ?_
    refine zs_if_ne (tgt := 32) dX13_readNumber_23 (by decide) (fun c_2 => ?_) (fun c_2 => ?_)
    · have hin := of_decide_eq_true (bI_t c_2)
      rw [hT.2.2.1 h3k, nI_lt' (by omega) (by omega), nI_lt' (by omega) (by omega)] at hin
      have htn : tNu t lo hi = 0 := by rw [tNu, if_pos h3k, if_neg hin.1, if_neg hin.2]
      refine zs_aload_n dX13_readNumber_32 rfl rfl ?_
      refine zs_aload_n dX13_readNumber_33 rfl rfl ?_
      refine zs_get 0 dX13_readNumber_34 zf_RX13_187 rfl (v := .int (g 8)) rfl ?_
      refine zs_put 0 dX13_readNumber_37 zf_RX13_223 rfl (Nat.le_of_ble_eq_true rfl) (zPv_i _) ?_
      show zS _ _ _ _ _ _ [(mo, .inr (11, fMo e (upd g 13 (g 8)) w)), ((e 1), .inl (0, 740, .inl (nF bt)))]
      refine zs_aload_n dX13_readNumber_40 rfl rfl ?_
      refine zs_callV (M := mX13_go) (As := []) (st := []) (Kc := [(mo, .inr (11, fMo e (upd g 13 (g 8)) w)), ((e 1), .inl (0, 740, .inl (nF bt)))]) (Kr := []) [0, 1] [] 0 dX13_readNumber_41 zl_RX13_226 kX13_go rfl rfl rfl rfl rfl (by decide) rfl rfl (show dd - 1 + 1 ≤ dd by omega) (Nat.zero_le _) (Nat.zero_le _) (Nat.le_of_ble_eq_true rfl) (s_mGoT l (dd - 1) mo e (upd g 13 (g 8)) w n L bt t (by omega) hn hL hbt h3 h4 (mTk_f hT rfl rfl rfl rfl rfl) hW h0) (fun r K1 hr => ?_)
      obtain ⟨rfl, g', w', hfr, hT', rfl⟩ := hr
      refine zs_K (K' := [(mo, .inr (11, fMo e g' w')), ((e 1), .inl (0, 740, .inl (nF bt)))]) [0, 1] rfl (by decide) ?_
      refine zs_iconst (v := nI 1) dX13_readNumber_44 (by decide) ?_
      exact zs_zret dX13_readNumber_45 rfl (Or.inr rfl) (Or.inl ⟨htn, rfl, g', w', mFr_13 hfr, (hfr 13 (by decide)).trans (hT.2.2.1 h3k), hT', rfl⟩)
    · have hin := of_decide_eq_false (bI_f c_2)
      rw [hT.2.2.1 h3k, nI_lt' (by omega) (by omega), nI_lt' (by omega) (by omega)] at hin
      have htn := tNu_22 h3k hin
      refine zs_aload_n dX13_readNumber_26 rfl rfl ?_
      refine zs_iconst (v := nI 2) dX13_readNumber_27 (by decide) ?_
      refine zs_callV (M := mX13_bad) (As := [.int (nI 2)]) (st := []) (Kc := [(mo, .inr (11, fMo e g w))]) (Kr := [((e 1), .inl (0, 740, .inl (nF bt)))]) [0] [1] 0 dX13_readNumber_28 zl_RX13_216 kX13_bad rfl rfl rfl rfl rfl (by decide) rfl rfl (show dd - 1 + 1 ≤ dd by omega) (Nat.zero_le _) (Nat.zero_le _) (Nat.le_of_ble_eq_true rfl) (s_mBad l (dd - 1) mo e g w n L t 2 hT hW hO) (fun r K1 hr => ?_)
      rw [mBad_e (by first | (intro; rfl) | (intro h; omega))] at hr
      obtain ⟨rfl, rfl⟩ := hr
      refine zs_K (K' := [(mo, .inr (11, fMo e (mFa g 2 t) w)), ((e 1), .inl (0, 740, .inl (nF bt)))]) [1, 0] rfl (by decide) ?_
      exact zs_zret dX13_readNumber_31 rfl (Or.inl rfl) (Or.inr ⟨by rw [htn]; decide, rfl, by rw [htn]; rfl⟩)
  · have c_1 : ¬ ((mKd n L t) = 3) := by have hc := c_1; rw [nI_eq' (by omega) (by omega)] at hc; exact hc
    have htn : tNu t lo hi = 1 := by rw [tNu, if_neg (fun h => c_1 ((mKd_n (by decide)).mpr h))]
    refine zs_aload_n dX13_readNumber_8 rfl rfl ?_
    refine zs_iconst (v := nI 1) dX13_readNumber_9 (by decide) ?_
    refine zs_callV (M := mX13_bad) (As := [.int (nI 1)]) (st := []) (Kc := [(mo, .inr (11, fMo e g w))]) (Kr := [((e 1), .inl (0, 740, .inl (nF bt)))]) [0] [1] 0 dX13_readNumber_10 zl_RX13_216 kX13_bad rfl rfl rfl rfl rfl (by decide) rfl rfl (show dd - 1 + 1 ≤ dd by omega) (Nat.zero_le _) (Nat.zero_le _) (Nat.le_of_ble_eq_true rfl) (s_mBad l (dd - 1) mo e g w n L t 1 hT hW hO) (fun r K1 hr => ?_)
    rw [mBad_e (by first | (intro; rfl) | (intro h; omega))] at hr
    obtain ⟨rfl, rfl⟩ := hr
    refine zs_K (K' := [(mo, .inr (11, fMo e (mFa g 1 t) w)), ((e 1), .inl (0, 740, .inl (nF bt)))]) [1, 0] rfl (by decide) ?_
    exact zs_zret dX13_readNumber_13 rfl (Or.inl rfl) (Or.inr ⟨by rw [htn]; decide, rfl, by rw [htn]; rfl⟩)
theorem dX13_readEnd_0 : decode cX13_readEnd 0 = .ok (.aload_n 0, 1) := by decide +kernel
theorem dX13_readEnd_1 : decode cX13_readEnd 1 = .ok (.bipush 59, 2) := by decide +kernel
theorem dX13_readEnd_3 : decode cX13_readEnd 3 = .ok (.invokevirtual 229, 3) := by decide +kernel
theorem dX13_readEnd_6 : decode cX13_readEnd 6 = .ok (.ifCond .ne 9, 3) := by decide +kernel
theorem dX13_readEnd_9 : decode cX13_readEnd 9 = .ok (.aload_n 0, 1) := by decide +kernel
theorem dX13_readEnd_10 : decode cX13_readEnd 10 = .ok (.iconst 1, 1) := by decide +kernel
theorem dX13_readEnd_11 : decode cX13_readEnd 11 = .ok (.invokevirtual 216, 3) := by decide +kernel
theorem dX13_readEnd_14 : decode cX13_readEnd 14 = .ok (.ireturn, 1) := by decide +kernel
theorem dX13_readEnd_15 : decode cX13_readEnd 15 = .ok (.aload_n 0, 1) := by decide +kernel
theorem dX13_readEnd_16 : decode cX13_readEnd 16 = .ok (.invokevirtual 226, 3) := by decide +kernel
theorem dX13_readEnd_19 : decode cX13_readEnd 19 = .ok (.iconst 1, 1) := by decide +kernel
theorem dX13_readEnd_20 : decode cX13_readEnd 20 = .ok (.ireturn, 1) := by decide +kernel
set_option maxRecDepth 100000 in
theorem s_mReadEnd (l : Launch) (dd : Nat) (mo : Nat) (e : Nat → Nat) (g : Nat → Int32) (w : Int64) (n L : Nat) (bt : Nat → Nat) (t : zTk) (hd : 2 ≤ dd) (hn : n ≤ 740) (hL : L ≤ 740) (hbt : ∀ j, bt j < 256) (h3 : g 3 = nI n) (h4 : g 4 = nI L) (hT : mTk n L t g w) (hW : tW n L t) (hO : tOK t) : zSp l mX13_readEnd dd 0 0 [.ref mo] [(mo, .inr (11, fMo e g w)), ((e 1), .inl (0, 740, .inl (nF bt)))] (fun r K' => (tAt t 59 = true ∧ r = some (.int 1) ∧ ∃ g' w', mFr [5, 6, 7, 8, 9] g g' ∧ mTk n L (nxt bt n L t) g' w' ∧ K' = [(mo, .inr (11, fMo e g' w'))] ++ [((e 1), .inl (0, 740, .inl (nF bt)))]) ∨ (tAt t 59 = false ∧ r = some (.int 0) ∧ K' = [(mo, .inr (11, fMo e (mFa g 1 t) w))] ++ [((e 1), .inl (0, 740, .inl (nF bt)))])) := by
  refine zSp.of (by decide) (Nat.le_of_ble_eq_true rfl) (fun h0 => ?_)
  show zS _ 0 0 0 [(0, .ref mo)] [] [(mo, .inr (11, fMo e g w)), ((e 1), .inl (0, 740, .inl (nF bt)))]
  have h14 := hO.1
  have hk4 := mKd_4 (n := n) (L := L) hO.1
  refine zs_aload_n dX13_readEnd_0 rfl rfl ?_
  refine zs_bipush (v := nI 59) dX13_readEnd_1 (by decide) ?_
  refine zs_callV (M := mX13_isSign) (As := [.int (nI 59)]) (st := []) (Kc := [(mo, .inr (11, fMo e g w))]) (Kr := [((e 1), .inl (0, 740, .inl (nF bt)))]) [0] [1] 0 dX13_readEnd_3 zl_RX13_229 kX13_isSign rfl rfl rfl rfl rfl (by decide) rfl rfl (show dd - 1 + 1 ≤ dd by omega) (Nat.zero_le _) (Nat.zero_le _) (Nat.le_of_ble_eq_true rfl) (s_mIsSign l (dd - 1) mo e g w n L t 59 hT hW hO (by decide)) (fun r K1 hr => ?_)
  obtain ⟨rfl, rfl⟩ := hr
  refine zs_K (K' := [(mo, .inr (11, fMo e g w)), ((e 1), .inl (0, 740, .inl (nF bt)))]) [1, 0] rfl (by decide) ?_
  refine zs_if_ne (tgt := 15) dX13_readEnd_6 (by decide) (fun c_1 => ?_) (fun c_1 => ?_)
  · have h59 := bI_t c_1
    have h0 : ¬ t.1 = 0 := fun h => by rw [tAt, h] at h59; exact absurd h59 (by rw [decide_eq_false (by decide)]; simp)
    refine zs_aload_n dX13_readEnd_15 rfl rfl ?_
    refine zs_callV (M := mX13_go) (As := []) (st := []) (Kc := [(mo, .inr (11, fMo e g w)), ((e 1), .inl (0, 740, .inl (nF bt)))]) (Kr := []) [0, 1] [] 0 dX13_readEnd_16 zl_RX13_226 kX13_go rfl rfl rfl rfl rfl (by decide) rfl rfl (show dd - 1 + 1 ≤ dd by omega) (Nat.zero_le _) (Nat.zero_le _) (Nat.le_of_ble_eq_true rfl) (s_mGoT l (dd - 1) mo e g w n L bt t (by omega) hn hL hbt h3 h4 (mTk_f hT rfl rfl rfl rfl rfl) hW h0) (fun r K1 hr => ?_)
    obtain ⟨rfl, g', w', hfr, hT', rfl⟩ := hr
    refine zs_K (K' := [(mo, .inr (11, fMo e g' w')), ((e 1), .inl (0, 740, .inl (nF bt)))]) [0, 1] rfl (by decide) ?_
    refine zs_iconst (v := nI 1) dX13_readEnd_19 (by decide) ?_
    exact zs_zret dX13_readEnd_20 rfl (Or.inr rfl) (Or.inl ⟨h59, rfl, g', w', hfr, hT', rfl⟩)
  · have h59 := bI_f c_1
    refine zs_aload_n dX13_readEnd_9 rfl rfl ?_
    refine zs_iconst (v := nI 1) dX13_readEnd_10 (by decide) ?_
    refine zs_callV (M := mX13_bad) (As := [.int (nI 1)]) (st := []) (Kc := [(mo, .inr (11, fMo e g w))]) (Kr := [((e 1), .inl (0, 740, .inl (nF bt)))]) [0] [1] 0 dX13_readEnd_11 zl_RX13_216 kX13_bad rfl rfl rfl rfl rfl (by decide) rfl rfl (show dd - 1 + 1 ≤ dd by omega) (Nat.zero_le _) (Nat.zero_le _) (Nat.le_of_ble_eq_true rfl) (s_mBad l (dd - 1) mo e g w n L t 1 hT hW hO) (fun r K1 hr => ?_)
    rw [mBad_e (by first | (intro; rfl) | (intro h; omega))] at hr
    obtain ⟨rfl, rfl⟩ := hr
    refine zs_K (K' := [(mo, .inr (11, fMo e (mFa g 1 t) w)), ((e 1), .inl (0, 740, .inl (nF bt)))]) [1, 0] rfl (by decide) ?_
    exact zs_zret dX13_readEnd_14 rfl (Or.inl rfl) (Or.inr ⟨h59, rfl, rfl⟩)
