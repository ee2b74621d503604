/-! ===== the reference: go, the whole ===== -/
theorem mrunD {b : Nat → Nat} {n q K j : Nat} (hK : q + K = lRun b n (n - q) q) (hj : j < K) (hl : isL (b (q + j)) = false) : isD (b (q + j)) = true := by
  have h := (lRun_D (b := b) (n := n) (n - q) q (q + j) (by omega) (by omega)).1
  rw [hl, Bool.false_or] at h
  exact h
set_option maxRecDepth 100000 in
theorem s_mGo (l : Launch) (dd : Nat) (mo : Nat) (e : Nat → Nat) (g : Nat → Int32) (w : Int64) (n L : Nat) (bt : Nat → Nat) (p : Nat) (hd : 1 ≤ dd) (hn : n ≤ 740) (hL : L ≤ 740) (hbt : ∀ j, bt j < 256) (h3 : g 3 = nI n) (h4 : g 4 = nI L) (h5 : g 5 = nI p) (hpn : p ≤ n) : zSp l mX13_go dd 0 0 [.ref mo] [(mo, .inr (11, fMo e g w)), ((e 1), .inl (0, 740, .inl (nF bt)))] (fun r K' => r = none ∧ ∃ g' w', mFr [5, 6, 7, 8, 9] g g' ∧ (∀ v, mTk n L (lAt bt n (min n L) (lSk bt (min n L) (min n L - p) p) v) g' w') ∧ K' = [(mo, .inr (11, fMo e g' w'))] ++ [((e 1), .inl (0, 740, .inl (nF bt)))]) := by
  refine zSp.of (by decide) (Nat.le_of_ble_eq_true rfl) (fun h0 => ?_)
  show zS _ 0 0 0 [(0, .ref mo)] [] [(mo, .inr (11, fMo e g w)), ((e 1), .inl (0, 740, .inl (nF bt)))]
  refine zs_eq (K' := [(mo, .inr (11, fMo e (upd g 5 (nI p)) w)), ((e 1), .inl (0, 740, .inl (nF bt)))]) (by rw [upd_id h5]) ?_
  obtain ⟨Q, hQ⟩ : ∃ Q, lSk bt n (n - p) p = Q := ⟨_, rfl⟩
  have hQn := (lSk_le (b := bt) (st := n) (n - p) p).1
  rw [hQ, Nat.max_eq_left hpn] at hQn
  refine lp_mskip mo e g w n L bt hd hn hL hbt h3 h4 Q ?_ (n - p) p (by omega) hQ
  refine zs_aload_n dX13_go_52 rfl rfl ?_
  refine zs_aload_n dX13_go_53 rfl rfl ?_
  refine zs_get 0 dX13_go_54 zf_RX13_161 rfl (v := .int (nI Q)) rfl ?_
  refine zs_put 0 dX13_go_57 zf_RX13_164 rfl (Nat.le_of_ble_eq_true rfl) (zPv_i _) ?_
  show zS _ _ _ _ _ _ [(mo, .inr (11, fMo e (upd (upd g 5 (nI Q)) 6 (nI Q)) w)), ((e 1), .inl (0, 740, .inl (nF bt)))]
  refine zs_aload_n dX13_go_60 rfl rfl ?_
  refine zs_get 0 dX13_go_61 zf_RX13_158 rfl (v := .int (g 3)) rfl ?_
  refine zs_as (y := nI n) h3 ?_
  refine zs_aload_n dX13_go_64 rfl rfl ?_
  refine zs_get 0 dX13_go_65 zf_RX13_167 rfl (v := .int (g 4)) rfl ?_
  refine zs_as (y := nI L) h4 ?_
  refine zs_icmp_le (tgt := 96) dX13_go_68 (by decide) (fun c_1 => ?_) (fun c_1 => ?_)
  · have c_1 : n ≤ L := by have hc := c_1; rw [nI_le' (by omega) (by omega)] at hc; exact hc
    refine zs_aload_n dX13_go_96 rfl rfl ?_
    refine zs_get 0 dX13_go_97 zf_RX13_161 rfl (v := .int (nI Q)) rfl ?_
    refine zs_aload_n dX13_go_100 rfl rfl ?_
    refine zs_get 0 dX13_go_101 zf_RX13_158 rfl (v := .int (g 3)) rfl ?_
    refine zs_as (y := nI n) h3 ?_
    refine zs_icmp_lt (tgt := 113) dX13_go_104 (by decide) (fun c_2 => ?_) (fun c_2 => ?_)
    · have c_2 : Q < n := by have hc := c_2; rw [nI_lt' (by omega) (by omega)] at hc; exact hc
      have hmq := mQ_1 (L := L) hpn hQ (by omega) (by omega)
      have hbq := hbt Q
      refine zs_aload_n dX13_go_113 rfl rfl ?_
      refine zs_get 0 dX13_go_114 zf_RX13_7 rfl (v := .ref (e 1)) rfl ?_
      refine zs_aload_n dX13_go_117 rfl rfl ?_
      refine zs_get 0 dX13_go_118 zf_RX13_161 rfl (v := .int (nI Q)) rfl ?_
      refine zs_iald 1 dX13_go_121 rfl (vp_in_nI (by omega) (by omega)) ?_
      refine zs_as (y := nI (bt Q)) (by rw [nI_c (n := Q) (by omega)]; rfl) ?_
      refine zs_istore_n (lv' := [(1, .int (nI (bt Q))), (0, .ref mo)]) dX13_go_122 (Nat.le_of_ble_eq_true rfl) rfl ?_
      refine zs_iload_n dX13_go_123 rfl ?_
      refine zs_callS (M := mX13_isLetter) (As := [.int (nI (bt Q))]) (st := []) (Kc := []) (Kr := [(mo, .inr (11, fMo e (upd (upd g 5 (nI Q)) 6 (nI Q)) w)), ((e 1), .inl (0, 740, .inl (nF bt)))]) [] [0, 1] dX13_go_124 zl_RX13_173 kX13_isLetter rfl rfl rfl rfl rfl (by decide) (show dd - 1 + 1 ≤ dd by omega) (Nat.zero_le _) (Nat.zero_le _) (Nat.le_of_ble_eq_true rfl) (s_mIsL l (dd - 1) (bt Q) (hbt _)) (fun r K1 hr => ?_)
      obtain ⟨rfl, rfl⟩ := hr
      refine zs_K (K' := [(mo, .inr (11, fMo e (upd (upd g 5 (nI Q)) 6 (nI Q)) w)), ((e 1), .inl (0, 740, .inl (nF bt)))]) [0, 1] rfl (by decide) ?_
      refine zs_if_ne (tgt := 198) dX13_go_127 (by decide) (fun c_3 => ?_) (fun c_3 => ?_)
      · have yl := c_3
        refine zs_iload_n dX13_go_198 rfl ?_
        refine zs_callS (M := mX13_isLetter) (As := [.int (nI (bt Q))]) (st := []) (Kc := []) (Kr := [(mo, .inr (11, fMo e (upd (upd g 5 (nI Q)) 6 (nI Q)) w)), ((e 1), .inl (0, 740, .inl (nF bt)))]) [] [0, 1] dX13_go_199 zl_RX13_173 kX13_isLetter rfl rfl rfl rfl rfl (by decide) (show dd - 1 + 1 ≤ dd by omega) (Nat.zero_le _) (Nat.zero_le _) (Nat.le_of_ble_eq_true rfl) (s_mIsL l (dd - 1) (bt Q) (hbt _)) (fun r K1 hr => ?_)
        obtain ⟨rfl, rfl⟩ := hr
        refine zs_K (K' := [(mo, .inr (11, fMo e (upd (upd g 5 (nI Q)) 6 (nI Q)) w)), ((e 1), .inl (0, 740, .inl (nF bt)))]) [0, 1] rfl (by decide) ?_
        refine zs_istore_n (lv' := [(2, .int (bI (isL (bt Q)))), (1, .int (nI (bt Q))), (0, .ref mo)]) dX13_go_202 (Nat.le_of_ble_eq_true rfl) rfl ?_
        refine zs_iconst (v := nI 1) dX13_go_203 (by decide) ?_
        refine zs_istore_n (lv' := [(3, .int (nI 1)), (2, .int (bI (isL (bt Q)))), (1, .int (nI (bt Q))), (0, .ref mo)]) dX13_go_204 (Nat.le_of_ble_eq_true rfl) rfl ?_
        refine zs_aload_n dX13_go_205 rfl rfl ?_
        refine zs_lconst (v := 0) dX13_go_206 (by decide) ?_
        refine zs_put 0 dX13_go_207 zf_RX13_183 rfl (Nat.le_of_ble_eq_true rfl) (zPv_j _) ?_
        show zS _ _ _ _ _ _ [(mo, .inr (11, fMo e (upd (upd g 5 (nI Q)) 6 (nI Q)) 0)), ((e 1), .inl (0, 740, .inl (nF bt)))]
        refine zs_aload_n dX13_go_210 rfl rfl ?_
        refine zs_iconst (v := nI 0) dX13_go_211 (by decide) ?_
        refine zs_put 0 dX13_go_212 zf_RX13_187 rfl (Nat.le_of_ble_eq_true rfl) (zPv_i _) ?_
        show zS _ _ _ _ _ _ [(mo, .inr (11, fMo e (upd (upd (upd g 5 (nI Q)) 6 (nI Q)) 8 (nI 0)) 0)), ((e 1), .inl (0, 740, .inl (nF bt)))]
        refine zs_lv [3, 2, 1, 0] rfl ?_
        have hlat : ∀ v, (lAt bt n (min n L) (lSk bt (min n L) (min n L - p) p) v) = lTk bt Q (lRun bt n (n - Q) Q) := fun v => by rw [hmq.1, lAt, if_neg (by omega)]; rw [if_pos (bI_t yl)]
        have hE1 : Q + 1 ≤ lRun bt n (n - Q) Q := by rw [show n - Q = (n - (Q + 1)) + 1 by omega, lRun, if_pos ⟨by omega, by rw [bI_t yl, Bool.true_or]⟩]; exact (lRun_le _ _).2
        have hEn : lRun bt n (n - Q) Q ≤ n := by have h := (lRun_le (b := bt) (n := n) (n - Q) Q).1; omega
        show zS _ 0 0 215 [(0, .ref mo), (1, .int (nI (bt Q))), (2, .int (bI (isL (bt Q)))), (3, .int (bI (mGd bt Q 0)))] [] [(mo, .inr (11, fMo e (upd (upd (upd g 5 (nI (Q + 0))) 6 (nI Q)) 8 (mNb bt Q 0)) (mWd bt Q 0))), ((e 1), .inl (0, 740, .inl (nF bt)))]
        refine lp_mrun mo e g w n L bt Q hd hn hL hbt h3 h4 (by omega) (lRun bt n (n - Q) Q) (fun K hK => ?_) (n - Q) 0 (by omega) rfl
        rw [← hK] at hlat hE1 hEn
        have isl : isL (bt Q) = true := bI_t yl
        refine zs_aload_n dX13_go_351 rfl rfl ?_
        refine zs_iload_n dX13_go_352 rfl ?_
        refine zs_if_eq (tgt := 379) dX13_go_353 (by decide) (fun c_1 => ?_) (fun c_1 => ?_)
        · refine zs_iconst (v := nI 1) dX13_go_379 (by decide) ?_
          refine zs_goto (tgt := 392) dX13_go_380 (by decide) ?_
          refine zs_put 0 dX13_go_392 zf_RX13_170 rfl (Nat.le_of_ble_eq_true rfl) (zPv_i _) ?_
          show zS _ _ _ _ _ _ [(mo, .inr (11, fMo e (upd (upd (upd (upd g 5 (nI (Q + K))) 6 (nI Q)) 7 (nI 1)) 8 (mNb bt Q K)) (mWd bt Q K))), ((e 1), .inl (0, 740, .inl (nF bt)))]
          exact zs_vret dX13_go_395 rfl ⟨rfl, (upd (upd (upd (upd g 5 (nI (Q + K))) 6 (nI Q)) 7 (nI 1)) 8 (mNb bt Q K)), (mWd bt Q K), (mFr_u (mFr_u (mFr_u (mFr_u mFr_r (by decide)) (by decide)) (by decide)) (by decide)), fun v => by rw [hlat v, lTk_1 (by omega) (Or.inl (bI_f c_1))]; exact ⟨fun h => absurd (show (1 : Nat) = 0 from h) (by decide), fun _ => ⟨rfl, rfl, rfl⟩, fun h => absurd (show (1 : Nat) = 3 from h) (by decide), fun h => absurd (show (1 : Nat) = 4 from h) (by decide), fun h => absurd (show (1 : Nat) = 2 from h) (by decide)⟩, rfl⟩
        · refine zs_aload_n dX13_go_356 rfl rfl ?_
          refine zs_get 0 dX13_go_357 zf_RX13_161 rfl (v := .int (nI (Q + K))) rfl ?_
          refine zs_aload_n dX13_go_360 rfl rfl ?_
          refine zs_get 0 dX13_go_361 zf_RX13_164 rfl (v := .int (nI Q)) rfl ?_
          refine zs_isub dX13_go_364 ?_
          refine zs_as (y := nI K) (by rw [nI_sub (by omega)]; exact congrArg nI (by omega)) ?_
          refine zs_iload_n dX13_go_365 rfl ?_
          refine zs_if_eq (tgt := 374) dX13_go_366 (by decide) (fun c_2 => (absurd c_2 (by rw [isl]; decide) : False).elim) (fun c_2 => ?_)
          refine zs_bipush (v := nI 6) dX13_go_369 (by decide) ?_
          refine zs_goto (tgt := 376) dX13_go_371 (by decide) ?_
          refine zs_icmp_le (tgt := 383) dX13_go_376 (by decide) (fun c_3 => ?_) (fun c_3 => ?_)
          · have c_3 : K ≤ 6 := by have hc := c_3; rw [nI_le' (by omega) (by omega)] at hc; exact hc
            refine zs_iload_n dX13_go_383 rfl ?_
            refine zs_if_eq (tgt := 391) dX13_go_384 (by decide) (fun c_4 => (absurd c_4 (by rw [isl]; decide) : False).elim) (fun c_4 => ?_)
            refine zs_iconst (v := nI 2) dX13_go_387 (by decide) ?_
            refine zs_goto (tgt := 392) dX13_go_388 (by decide) ?_
            refine zs_put 0 dX13_go_392 zf_RX13_170 rfl (Nat.le_of_ble_eq_true rfl) (zPv_i _) ?_
            show zS _ _ _ _ _ _ [(mo, .inr (11, fMo e (upd (upd (upd (upd g 5 (nI (Q + K))) 6 (nI Q)) 7 (nI 2)) 8 (mNb bt Q K)) (mWd bt Q K))), ((e 1), .inl (0, 740, .inl (nF bt)))]
            exact zs_vret dX13_go_395 rfl ⟨rfl, (upd (upd (upd (upd g 5 (nI (Q + K))) 6 (nI Q)) 7 (nI 2)) 8 (mNb bt Q K)), (mWd bt Q K), (mFr_u (mFr_u (mFr_u (mFr_u mFr_r (by decide)) (by decide)) (by decide)) (by decide)), fun v => by rw [hlat v, lTk_w (fun j hj => (mGd_t K (bI_t c_1) j hj).trans isl) (by omega)]; exact ⟨fun h => absurd (show (2 : Nat) = 0 from h) (by decide), fun _ => ⟨rfl, rfl, rfl⟩, fun h => absurd (show (2 : Nat) = 3 from h) (by decide), fun h => absurd (show (2 : Nat) = 4 from h) (by decide), fun _ => mWd_l K (by omega) hbt (fun j hj => (mGd_t K (bI_t c_1) j hj).trans isl)⟩, rfl⟩
          · have c_3 : ¬ (K ≤ 6) := by have hc := c_3; rw [nI_le' (by omega) (by omega)] at hc; exact hc
            refine zs_iconst (v := nI 1) dX13_go_379 (by decide) ?_
            refine zs_goto (tgt := 392) dX13_go_380 (by decide) ?_
            refine zs_put 0 dX13_go_392 zf_RX13_170 rfl (Nat.le_of_ble_eq_true rfl) (zPv_i _) ?_
            show zS _ _ _ _ _ _ [(mo, .inr (11, fMo e (upd (upd (upd (upd g 5 (nI (Q + K))) 6 (nI Q)) 7 (nI 1)) 8 (mNb bt Q K)) (mWd bt Q K))), ((e 1), .inl (0, 740, .inl (nF bt)))]
            exact zs_vret dX13_go_395 rfl ⟨rfl, (upd (upd (upd (upd g 5 (nI (Q + K))) 6 (nI Q)) 7 (nI 1)) 8 (mNb bt Q K)), (mWd bt Q K), (mFr_u (mFr_u (mFr_u (mFr_u mFr_r (by decide)) (by decide)) (by decide)) (by decide)), fun v => by rw [hlat v, lTk_1 (by omega) (Or.inr (Or.inl ⟨bI_t c_1, isl, by omega⟩))]; exact ⟨fun h => absurd (show (1 : Nat) = 0 from h) (by decide), fun _ => ⟨rfl, rfl, rfl⟩, fun h => absurd (show (1 : Nat) = 3 from h) (by decide), fun h => absurd (show (1 : Nat) = 4 from h) (by decide), fun h => absurd (show (1 : Nat) = 2 from h) (by decide)⟩, rfl⟩
      · have nl := c_3
        refine zs_iload_n dX13_go_130 rfl ?_
        refine zs_callS (M := mX13_isDigit) (As := [.int (nI (bt Q))]) (st := []) (Kc := []) (Kr := [(mo, .inr (11, fMo e (upd (upd g 5 (nI Q)) 6 (nI Q)) w)), ((e 1), .inl (0, 740, .inl (nF bt)))]) [] [0, 1] dX13_go_131 zl_RX13_177 kX13_isDigit rfl rfl rfl rfl rfl (by decide) (show dd - 1 + 1 ≤ dd by omega) (Nat.zero_le _) (Nat.zero_le _) (Nat.le_of_ble_eq_true rfl) (s_mIsD l (dd - 1) (bt Q) (hbt _)) (fun r K1 hr => ?_)
        obtain ⟨rfl, rfl⟩ := hr
        refine zs_K (K' := [(mo, .inr (11, fMo e (upd (upd g 5 (nI Q)) 6 (nI Q)) w)), ((e 1), .inl (0, 740, .inl (nF bt)))]) [0, 1] rfl (by decide) ?_
        refine zs_if_ne (tgt := 198) dX13_go_134 (by decide) (fun c_4 => ?_) (fun c_4 => ?_)
        · have yd := c_4
          refine zs_iload_n dX13_go_198 rfl ?_
          refine zs_callS (M := mX13_isLetter) (As := [.int (nI (bt Q))]) (st := []) (Kc := []) (Kr := [(mo, .inr (11, fMo e (upd (upd g 5 (nI Q)) 6 (nI Q)) w)), ((e 1), .inl (0, 740, .inl (nF bt)))]) [] [0, 1] dX13_go_199 zl_RX13_173 kX13_isLetter rfl rfl rfl rfl rfl (by decide) (show dd - 1 + 1 ≤ dd by omega) (Nat.zero_le _) (Nat.zero_le _) (Nat.le_of_ble_eq_true rfl) (s_mIsL l (dd - 1) (bt Q) (hbt _)) (fun r K1 hr => ?_)
          obtain ⟨rfl, rfl⟩ := hr
          refine zs_K (K' := [(mo, .inr (11, fMo e (upd (upd g 5 (nI Q)) 6 (nI Q)) w)), ((e 1), .inl (0, 740, .inl (nF bt)))]) [0, 1] rfl (by decide) ?_
          refine zs_istore_n (lv' := [(2, .int (bI (isL (bt Q)))), (1, .int (nI (bt Q))), (0, .ref mo)]) dX13_go_202 (Nat.le_of_ble_eq_true rfl) rfl ?_
          refine zs_iconst (v := nI 1) dX13_go_203 (by decide) ?_
          refine zs_istore_n (lv' := [(3, .int (nI 1)), (2, .int (bI (isL (bt Q)))), (1, .int (nI (bt Q))), (0, .ref mo)]) dX13_go_204 (Nat.le_of_ble_eq_true rfl) rfl ?_
          refine zs_aload_n dX13_go_205 rfl rfl ?_
          refine zs_lconst (v := 0) dX13_go_206 (by decide) ?_
          refine zs_put 0 dX13_go_207 zf_RX13_183 rfl (Nat.le_of_ble_eq_true rfl) (zPv_j _) ?_
          show zS _ _ _ _ _ _ [(mo, .inr (11, fMo e (upd (upd g 5 (nI Q)) 6 (nI Q)) 0)), ((e 1), .inl (0, 740, .inl (nF bt)))]
          refine zs_aload_n dX13_go_210 rfl rfl ?_
          refine zs_iconst (v := nI 0) dX13_go_211 (by decide) ?_
          refine zs_put 0 dX13_go_212 zf_RX13_187 rfl (Nat.le_of_ble_eq_true rfl) (zPv_i _) ?_
          show zS _ _ _ _ _ _ [(mo, .inr (11, fMo e (upd (upd (upd g 5 (nI Q)) 6 (nI Q)) 8 (nI 0)) 0)), ((e 1), .inl (0, 740, .inl (nF bt)))]
          refine zs_lv [3, 2, 1, 0] rfl ?_
          have hlat : ∀ v, (lAt bt n (min n L) (lSk bt (min n L) (min n L - p) p) v) = lTk bt Q (lRun bt n (n - Q) Q) := fun v => by rw [hmq.1, lAt, if_neg (by omega)]; rw [if_neg (by rw [bI_f nl]; decide), if_pos (bI_t yd)]
          have hE1 : Q + 1 ≤ lRun bt n (n - Q) Q := by rw [show n - Q = (n - (Q + 1)) + 1 by omega, lRun, if_pos ⟨by omega, by rw [bI_t yd, Bool.or_true]⟩]; exact (lRun_le _ _).2
          have hEn : lRun bt n (n - Q) Q ≤ n := by have h := (lRun_le (b := bt) (n := n) (n - Q) Q).1; omega
          show zS _ 0 0 215 [(0, .ref mo), (1, .int (nI (bt Q))), (2, .int (bI (isL (bt Q)))), (3, .int (bI (mGd bt Q 0)))] [] [(mo, .inr (11, fMo e (upd (upd (upd g 5 (nI (Q + 0))) 6 (nI Q)) 8 (mNb bt Q 0)) (mWd bt Q 0))), ((e 1), .inl (0, 740, .inl (nF bt)))]
          refine lp_mrun mo e g w n L bt Q hd hn hL hbt h3 h4 (by omega) (lRun bt n (n - Q) Q) (fun K hK => ?_) (n - Q) 0 (by omega) rfl
          rw [← hK] at hlat hE1 hEn
          have isl : isL (bt Q) = false := bI_f nl
          refine zs_aload_n dX13_go_351 rfl rfl ?_
          refine zs_iload_n dX13_go_352 rfl ?_
          refine zs_if_eq (tgt := 379) dX13_go_353 (by decide) (fun c_1 => ?_) (fun c_1 => ?_)
          · refine zs_iconst (v := nI 1) dX13_go_379 (by decide) ?_
            refine zs_goto (tgt := 392) dX13_go_380 (by decide) ?_
            refine zs_put 0 dX13_go_392 zf_RX13_170 rfl (Nat.le_of_ble_eq_true rfl) (zPv_i _) ?_
            show zS _ _ _ _ _ _ [(mo, .inr (11, fMo e (upd (upd (upd (upd g 5 (nI (Q + K))) 6 (nI Q)) 7 (nI 1)) 8 (mNb bt Q K)) (mWd bt Q K))), ((e 1), .inl (0, 740, .inl (nF bt)))]
            exact zs_vret dX13_go_395 rfl ⟨rfl, (upd (upd (upd (upd g 5 (nI (Q + K))) 6 (nI Q)) 7 (nI 1)) 8 (mNb bt Q K)), (mWd bt Q K), (mFr_u (mFr_u (mFr_u (mFr_u mFr_r (by decide)) (by decide)) (by decide)) (by decide)), fun v => by rw [hlat v, lTk_1 (by omega) (Or.inl (bI_f c_1))]; exact ⟨fun h => absurd (show (1 : Nat) = 0 from h) (by decide), fun _ => ⟨rfl, rfl, rfl⟩, fun h => absurd (show (1 : Nat) = 3 from h) (by decide), fun h => absurd (show (1 : Nat) = 4 from h) (by decide), fun h => absurd (show (1 : Nat) = 2 from h) (by decide)⟩, rfl⟩
          · refine zs_aload_n dX13_go_356 rfl rfl ?_
            refine zs_get 0 dX13_go_357 zf_RX13_161 rfl (v := .int (nI (Q + K))) rfl ?_
            refine zs_aload_n dX13_go_360 rfl rfl ?_
            refine zs_get 0 dX13_go_361 zf_RX13_164 rfl (v := .int (nI Q)) rfl ?_
            refine zs_isub dX13_go_364 ?_
            refine zs_as (y := nI K) (by rw [nI_sub (by omega)]; exact congrArg nI (by omega)) ?_
            refine zs_iload_n dX13_go_365 rfl ?_
            refine zs_if_eq (tgt := 374) dX13_go_366 (by decide) (fun c_2 => ?_) (fun c_2 => (c_2 (by rw [isl]; rfl) : False).elim)
            refine zs_bipush (v := nI 8) dX13_go_374 (by decide) ?_
            refine zs_icmp_le (tgt := 383) dX13_go_376 (by decide) (fun c_3 => ?_) (fun c_3 => ?_)
            · have c_3 : K ≤ 8 := by have hc := c_3; rw [nI_le' (by omega) (by omega)] at hc; exact hc
              refine zs_iload_n dX13_go_383 rfl ?_
              refine zs_if_eq (tgt := 391) dX13_go_384 (by decide) (fun c_4 => ?_) (fun c_4 => (c_4 (by rw [isl]; rfl) : False).elim)
              refine zs_iconst (v := nI 3) dX13_go_391 (by decide) ?_
              refine zs_put 0 dX13_go_392 zf_RX13_170 rfl (Nat.le_of_ble_eq_true rfl) (zPv_i _) ?_
              show zS _ _ _ _ _ _ [(mo, .inr (11, fMo e (upd (upd (upd (upd g 5 (nI (Q + K))) 6 (nI Q)) 7 (nI 3)) 8 (mNb bt Q K)) (mWd bt Q K))), ((e 1), .inl (0, 740, .inl (nF bt)))]
              exact zs_vret dX13_go_395 rfl ⟨rfl, (upd (upd (upd (upd g 5 (nI (Q + K))) 6 (nI Q)) 7 (nI 3)) 8 (mNb bt Q K)), (mWd bt Q K), (mFr_u (mFr_u (mFr_u (mFr_u mFr_r (by decide)) (by decide)) (by decide)) (by decide)), fun v => by rw [hlat v, lTk_n (by omega) (fun j hj => (mGd_t K (bI_t c_1) j hj).trans isl) (by omega)]; exact ⟨fun h => absurd (show (3 : Nat) = 0 from h) (by decide), fun _ => ⟨rfl, rfl, rfl⟩, fun _ => mNb_d K (by omega) (fun j hj => ⟨(fun j hj => (mGd_t K (bI_t c_1) j hj).trans isl) j hj, mrunD hK hj ((fun j hj => (mGd_t K (bI_t c_1) j hj).trans isl) j hj)⟩), fun h => absurd (show (3 : Nat) = 4 from h) (by decide), fun h => absurd (show (3 : Nat) = 2 from h) (by decide)⟩, rfl⟩
            · have c_3 : ¬ (K ≤ 8) := by have hc := c_3; rw [nI_le' (by omega) (by omega)] at hc; exact hc
              refine zs_iconst (v := nI 1) dX13_go_379 (by decide) ?_
              refine zs_goto (tgt := 392) dX13_go_380 (by decide) ?_
              refine zs_put 0 dX13_go_392 zf_RX13_170 rfl (Nat.le_of_ble_eq_true rfl) (zPv_i _) ?_
              show zS _ _ _ _ _ _ [(mo, .inr (11, fMo e (upd (upd (upd (upd g 5 (nI (Q + K))) 6 (nI Q)) 7 (nI 1)) 8 (mNb bt Q K)) (mWd bt Q K))), ((e 1), .inl (0, 740, .inl (nF bt)))]
              exact zs_vret dX13_go_395 rfl ⟨rfl, (upd (upd (upd (upd g 5 (nI (Q + K))) 6 (nI Q)) 7 (nI 1)) 8 (mNb bt Q K)), (mWd bt Q K), (mFr_u (mFr_u (mFr_u (mFr_u mFr_r (by decide)) (by decide)) (by decide)) (by decide)), fun v => by rw [hlat v, lTk_1 (by omega) (Or.inr (Or.inr ⟨bI_t c_1, isl, by omega⟩))]; exact ⟨fun h => absurd (show (1 : Nat) = 0 from h) (by decide), fun _ => ⟨rfl, rfl, rfl⟩, fun h => absurd (show (1 : Nat) = 3 from h) (by decide), fun h => absurd (show (1 : Nat) = 4 from h) (by decide), fun h => absurd (show (1 : Nat) = 2 from h) (by decide)⟩, rfl⟩
        · have nd := c_4
          have hlat : ∀ v, (lAt bt n (min n L) (lSk bt (min n L) (min n L - p) p) v) = ((if isS (bt Q) = true then 4 else 1), Q, Q + 1, bt Q, none) := fun v => by rw [hmq.1, lAt, if_neg (by omega), if_neg (by rw [bI_f nl]; decide), if_neg (by rw [bI_f nd]; decide)]
          refine zs_aload_n dX13_go_137 rfl rfl ?_
          refine zs_iload_n dX13_go_138 rfl ?_
          refine zs_bipush (v := nI 59) dX13_go_139 (by decide) ?_
          refine zs_icmp_eq (tgt := 174) dX13_go_141 (by decide) (fun c_5 => ?_) (fun c_5 => ?_)
          · have c_5 : (bt Q) = 59 := by have hc := c_5; rw [nI_eq' (by omega) (by omega)] at hc; exact hc
            refine zs_iconst (v := nI 4) dX13_go_174 (by decide) ?_
            refine zs_goto (tgt := 179) dX13_go_175 (by decide) ?_
            refine zs_put 0 dX13_go_179 zf_RX13_170 rfl (Nat.le_of_ble_eq_true rfl) (zPv_i _) ?_
            show zS _ _ _ _ _ _ [(mo, .inr (11, fMo e (upd (upd (upd g 5 (nI Q)) 6 (nI Q)) 7 (nI 4)) w)), ((e 1), .inl (0, 740, .inl (nF bt)))]
            refine zs_aload_n dX13_go_182 rfl rfl ?_
            refine zs_iload_n dX13_go_183 rfl ?_
            refine zs_put 0 dX13_go_184 zf_RX13_180 rfl (Nat.le_of_ble_eq_true rfl) (zPv_i _) ?_
            show zS _ _ _ _ _ _ [(mo, .inr (11, fMo e (upd (upd (upd (upd g 5 (nI Q)) 6 (nI Q)) 7 (nI 4)) 9 (nI (bt Q))) w)), ((e 1), .inl (0, 740, .inl (nF bt)))]
            refine zs_aload_n dX13_go_187 rfl rfl ?_
            refine zs_dup dX13_go_188 rfl ?_
            refine zs_get 0 dX13_go_189 zf_RX13_161 rfl (v := .int (nI Q)) rfl ?_
            refine zs_iconst (v := nI 1) dX13_go_192 (by decide) ?_
            refine zs_iadd dX13_go_193 ?_
            refine zs_as (y := nI (Q + 1)) (nI_add _ _) ?_
            refine zs_put 0 dX13_go_194 zf_RX13_161 rfl (Nat.le_of_ble_eq_true rfl) (zPv_i _) ?_
            show zS _ _ _ _ _ _ [(mo, .inr (11, fMo e (upd (upd (upd (upd g 5 (nI (Q + 1))) 6 (nI Q)) 7 (nI 4)) 9 (nI (bt Q))) w)), ((e 1), .inl (0, 740, .inl (nF bt)))]
            exact zs_vret dX13_go_197 rfl ⟨rfl, (upd (upd (upd (upd g 5 (nI (Q + 1))) 6 (nI Q)) 7 (nI 4)) 9 (nI (bt Q))), w, (mFr_u (mFr_u (mFr_u (mFr_u mFr_r (by decide)) (by decide)) (by decide)) (by decide)), fun v => by rw [hlat v, if_pos (show isS (bt Q) = true from decide_eq_true (by omega))]; exact ⟨fun h => absurd (show (4 : Nat) = 0 from h) (by decide), fun _ => ⟨rfl, rfl, rfl⟩, fun h => absurd (show (4 : Nat) = 3 from h) (by decide), fun _ => rfl, fun h => absurd (show (4 : Nat) = 2 from h) (by decide)⟩, rfl⟩
          · have c_5 : ¬ ((bt Q) = 59) := by have hc := c_5; rw [nI_eq' (by omega) (by omega)] at hc; exact hc
            refine zs_iload_n dX13_go_144 rfl ?_
            refine zs_bipush (v := nI 60) dX13_go_145 (by decide) ?_
            refine zs_icmp_eq (tgt := 174) dX13_go_147 (by decide) (fun c_6 => ?_) (fun c_6 => ?_)
            · have c_6 : (bt Q) = 60 := by have hc := c_6; rw [nI_eq' (by omega) (by omega)] at hc; exact hc
              refine zs_iconst (v := nI 4) dX13_go_174 (by decide) ?_
              refine zs_goto (tgt := 179) dX13_go_175 (by decide) ?_
              refine zs_put 0 dX13_go_179 zf_RX13_170 rfl (Nat.le_of_ble_eq_true rfl) (zPv_i _) ?_
              show zS _ _ _ _ _ _ [(mo, .inr (11, fMo e (upd (upd (upd g 5 (nI Q)) 6 (nI Q)) 7 (nI 4)) w)), ((e 1), .inl (0, 740, .inl (nF bt)))]
              refine zs_aload_n dX13_go_182 rfl rfl ?_
              refine zs_iload_n dX13_go_183 rfl ?_
              refine zs_put 0 dX13_go_184 zf_RX13_180 rfl (Nat.le_of_ble_eq_true rfl) (zPv_i _) ?_
              show zS _ _ _ _ _ _ [(mo, .inr (11, fMo e (upd (upd (upd (upd g 5 (nI Q)) 6 (nI Q)) 7 (nI 4)) 9 (nI (bt Q))) w)), ((e 1), .inl (0, 740, .inl (nF bt)))]
              refine zs_aload_n dX13_go_187 rfl rfl ?_
              refine zs_dup dX13_go_188 rfl ?_
              refine zs_get 0 dX13_go_189 zf_RX13_161 rfl (v := .int (nI Q)) rfl ?_
              refine zs_iconst (v := nI 1) dX13_go_192 (by decide) ?_
              refine zs_iadd dX13_go_193 ?_
              refine zs_as (y := nI (Q + 1)) (nI_add _ _) ?_
              refine zs_put 0 dX13_go_194 zf_RX13_161 rfl (Nat.le_of_ble_eq_true rfl) (zPv_i _) ?_
              show zS _ _ _ _ _ _ [(mo, .inr (11, fMo e (upd (upd (upd (upd g 5 (nI (Q + 1))) 6 (nI Q)) 7 (nI 4)) 9 (nI (bt Q))) w)), ((e 1), .inl (0, 740, .inl (nF bt)))]
              exact zs_vret dX13_go_197 rfl ⟨rfl, (upd (upd (upd (upd g 5 (nI (Q + 1))) 6 (nI Q)) 7 (nI 4)) 9 (nI (bt Q))), w, (mFr_u (mFr_u (mFr_u (mFr_u mFr_r (by decide)) (by decide)) (by decide)) (by decide)), fun v => by rw [hlat v, if_pos (show isS (bt Q) = true from decide_eq_true (by omega))]; exact ⟨fun h => absurd (show (4 : Nat) = 0 from h) (by decide), fun _ => ⟨rfl, rfl, rfl⟩, fun h => absurd (show (4 : Nat) = 3 from h) (by decide), fun _ => rfl, fun h => absurd (show (4 : Nat) = 2 from h) (by decide)⟩, rfl⟩
            · have c_6 : ¬ ((bt Q) = 60) := by have hc := c_6; rw [nI_eq' (by omega) (by omega)] at hc; exact hc
              refine zs_iload_n dX13_go_150 rfl ?_
              refine zs_bipush (v := nI 61) dX13_go_151 (by decide) ?_
              refine zs_icmp_eq (tgt := 174) dX13_go_153 (by decide) (fun c_7 => ?_) (fun c_7 => ?_)
              · have c_7 : (bt Q) = 61 := by have hc := c_7; rw [nI_eq' (by omega) (by omega)] at hc; exact hc
                refine zs_iconst (v := nI 4) dX13_go_174 (by decide) ?_
                refine zs_goto (tgt := 179) dX13_go_175 (by decide) ?_
                refine zs_put 0 dX13_go_179 zf_RX13_170 rfl (Nat.le_of_ble_eq_true rfl) (zPv_i _) ?_
                show zS _ _ _ _ _ _ [(mo, .inr (11, fMo e (upd (upd (upd g 5 (nI Q)) 6 (nI Q)) 7 (nI 4)) w)), ((e 1), .inl (0, 740, .inl (nF bt)))]
                refine zs_aload_n dX13_go_182 rfl rfl ?_
                refine zs_iload_n dX13_go_183 rfl ?_
                refine zs_put 0 dX13_go_184 zf_RX13_180 rfl (Nat.le_of_ble_eq_true rfl) (zPv_i _) ?_
                show zS _ _ _ _ _ _ [(mo, .inr (11, fMo e (upd (upd (upd (upd g 5 (nI Q)) 6 (nI Q)) 7 (nI 4)) 9 (nI (bt Q))) w)), ((e 1), .inl (0, 740, .inl (nF bt)))]
                refine zs_aload_n dX13_go_187 rfl rfl ?_
                refine zs_dup dX13_go_188 rfl ?_
                refine zs_get 0 dX13_go_189 zf_RX13_161 rfl (v := .int (nI Q)) rfl ?_
                refine zs_iconst (v := nI 1) dX13_go_192 (by decide) ?_
                refine zs_iadd dX13_go_193 ?_
                refine zs_as (y := nI (Q + 1)) (nI_add _ _) ?_
                refine zs_put 0 dX13_go_194 zf_RX13_161 rfl (Nat.le_of_ble_eq_true rfl) (zPv_i _) ?_
                show zS _ _ _ _ _ _ [(mo, .inr (11, fMo e (upd (upd (upd (upd g 5 (nI (Q + 1))) 6 (nI Q)) 7 (nI 4)) 9 (nI (bt Q))) w)), ((e 1), .inl (0, 740, .inl (nF bt)))]
                exact zs_vret dX13_go_197 rfl ⟨rfl, (upd (upd (upd (upd g 5 (nI (Q + 1))) 6 (nI Q)) 7 (nI 4)) 9 (nI (bt Q))), w, (mFr_u (mFr_u (mFr_u (mFr_u mFr_r (by decide)) (by decide)) (by decide)) (by decide)), fun v => by rw [hlat v, if_pos (show isS (bt Q) = true from decide_eq_true (by omega))]; exact ⟨fun h => absurd (show (4 : Nat) = 0 from h) (by decide), fun _ => ⟨rfl, rfl, rfl⟩, fun h => absurd (show (4 : Nat) = 3 from h) (by decide), fun _ => rfl, fun h => absurd (show (4 : Nat) = 2 from h) (by decide)⟩, rfl⟩
              · have c_7 : ¬ ((bt Q) = 61) := by have hc := c_7; rw [nI_eq' (by omega) (by omega)] at hc; exact hc
                refine zs_iload_n dX13_go_156 rfl ?_
                refine zs_bipush (v := nI 62) dX13_go_157 (by decide) ?_
                refine zs_icmp_eq (tgt := 174) dX13_go_159 (by decide) (fun c_8 => ?_) (fun c_8 => ?_)
                · have c_8 : (bt Q) = 62 := by have hc := c_8; rw [nI_eq' (by omega) (by omega)] at hc; exact hc
                  refine zs_iconst (v := nI 4) dX13_go_174 (by decide) ?_
                  refine zs_goto (tgt := 179) dX13_go_175 (by decide) ?_
                  refine zs_put 0 dX13_go_179 zf_RX13_170 rfl (Nat.le_of_ble_eq_true rfl) (zPv_i _) ?_
                  show zS _ _ _ _ _ _ [(mo, .inr (11, fMo e (upd (upd (upd g 5 (nI Q)) 6 (nI Q)) 7 (nI 4)) w)), ((e 1), .inl (0, 740, .inl (nF bt)))]
                  refine zs_aload_n dX13_go_182 rfl rfl ?_
                  refine zs_iload_n dX13_go_183 rfl ?_
                  refine zs_put 0 dX13_go_184 zf_RX13_180 rfl (Nat.le_of_ble_eq_true rfl) (zPv_i _) ?_
                  show zS _ _ _ _ _ _ [(mo, .inr (11, fMo e (upd (upd (upd (upd g 5 (nI Q)) 6 (nI Q)) 7 (nI 4)) 9 (nI (bt Q))) w)), ((e 1), .inl (0, 740, .inl (nF bt)))]
                  refine zs_aload_n dX13_go_187 rfl rfl ?_
                  refine zs_dup dX13_go_188 rfl ?_
                  refine zs_get 0 dX13_go_189 zf_RX13_161 rfl (v := .int (nI Q)) rfl ?_
                  refine zs_iconst (v := nI 1) dX13_go_192 (by decide) ?_
                  refine zs_iadd dX13_go_193 ?_
                  refine zs_as (y := nI (Q + 1)) (nI_add _ _) ?_
                  refine zs_put 0 dX13_go_194 zf_RX13_161 rfl (Nat.le_of_ble_eq_true rfl) (zPv_i _) ?_
                  show zS _ _ _ _ _ _ [(mo, .inr (11, fMo e (upd (upd (upd (upd g 5 (nI (Q + 1))) 6 (nI Q)) 7 (nI 4)) 9 (nI (bt Q))) w)), ((e 1), .inl (0, 740, .inl (nF bt)))]
                  exact zs_vret dX13_go_197 rfl ⟨rfl, (upd (upd (upd (upd g 5 (nI (Q + 1))) 6 (nI Q)) 7 (nI 4)) 9 (nI (bt Q))), w, (mFr_u (mFr_u (mFr_u (mFr_u mFr_r (by decide)) (by decide)) (by decide)) (by decide)), fun v => by rw [hlat v, if_pos (show isS (bt Q) = true from decide_eq_true (by omega))]; exact ⟨fun h => absurd (show (4 : Nat) = 0 from h) (by decide), fun _ => ⟨rfl, rfl, rfl⟩, fun h => absurd (show (4 : Nat) = 3 from h) (by decide), fun _ => rfl, fun h => absurd (show (4 : Nat) = 2 from h) (by decide)⟩, rfl⟩
                · have c_8 : ¬ ((bt Q) = 62) := by have hc := c_8; rw [nI_eq' (by omega) (by omega)] at hc; exact hc
                  refine zs_iload_n dX13_go_162 rfl ?_
                  refine zs_bipush (v := nI 40) dX13_go_163 (by decide) ?_
                  refine zs_icmp_eq (tgt := 174) dX13_go_165 (by decide) (fun c_9 => ?_) (fun c_9 => ?_)
                  · have c_9 : (bt Q) = 40 := by have hc := c_9; rw [nI_eq' (by omega) (by omega)] at hc; exact hc
                    refine zs_iconst (v := nI 4) dX13_go_174 (by decide) ?_
                    refine zs_goto (tgt := 179) dX13_go_175 (by decide) ?_
                    refine zs_put 0 dX13_go_179 zf_RX13_170 rfl (Nat.le_of_ble_eq_true rfl) (zPv_i _) ?_
                    show zS _ _ _ _ _ _ [(mo, .inr (11, fMo e (upd (upd (upd g 5 (nI Q)) 6 (nI Q)) 7 (nI 4)) w)), ((e 1), .inl (0, 740, .inl (nF bt)))]
                    refine zs_aload_n dX13_go_182 rfl rfl ?_
                    refine zs_iload_n dX13_go_183 rfl ?_
                    refine zs_put 0 dX13_go_184 zf_RX13_180 rfl (Nat.le_of_ble_eq_true rfl) (zPv_i _) ?_
                    show zS _ _ _ _ _ _ [(mo, .inr (11, fMo e (upd (upd (upd (upd g 5 (nI Q)) 6 (nI Q)) 7 (nI 4)) 9 (nI (bt Q))) w)), ((e 1), .inl (0, 740, .inl (nF bt)))]
                    refine zs_aload_n dX13_go_187 rfl rfl ?_
                    refine zs_dup dX13_go_188 rfl ?_
                    refine zs_get 0 dX13_go_189 zf_RX13_161 rfl (v := .int (nI Q)) rfl ?_
                    refine zs_iconst (v := nI 1) dX13_go_192 (by decide) ?_
                    refine zs_iadd dX13_go_193 ?_
                    refine zs_as (y := nI (Q + 1)) (nI_add _ _) ?_
                    refine zs_put 0 dX13_go_194 zf_RX13_161 rfl (Nat.le_of_ble_eq_true rfl) (zPv_i _) ?_
                    show zS _ _ _ _ _ _ [(mo, .inr (11, fMo e (upd (upd (upd (upd g 5 (nI (Q + 1))) 6 (nI Q)) 7 (nI 4)) 9 (nI (bt Q))) w)), ((e 1), .inl (0, 740, .inl (nF bt)))]
                    exact zs_vret dX13_go_197 rfl ⟨rfl, (upd (upd (upd (upd g 5 (nI (Q + 1))) 6 (nI Q)) 7 (nI 4)) 9 (nI (bt Q))), w, (mFr_u (mFr_u (mFr_u (mFr_u mFr_r (by decide)) (by decide)) (by decide)) (by decide)), fun v => by rw [hlat v, if_pos (show isS (bt Q) = true from decide_eq_true (by omega))]; exact ⟨fun h => absurd (show (4 : Nat) = 0 from h) (by decide), fun _ => ⟨rfl, rfl, rfl⟩, fun h => absurd (show (4 : Nat) = 3 from h) (by decide), fun _ => rfl, fun h => absurd (show (4 : Nat) = 2 from h) (by decide)⟩, rfl⟩
                  · have c_9 : ¬ ((bt Q) = 40) := by have hc := c_9; rw [nI_eq' (by omega) (by omega)] at hc; exact hc
                    refine zs_iload_n dX13_go_168 rfl ?_
                    refine zs_bipush (v := nI 41) dX13_go_169 (by decide) ?_
                    refine zs_icmp_ne (tgt := 178) dX13_go_171 (by decide) (fun c_10 => ?_) (fun c_10 => ?_)
                    · have c_10 : ¬ ((bt Q) = 41) := by have hc := c_10; rw [nI_eq' (by omega) (by omega)] at hc; exact hc
                      refine zs_iconst (v := nI 1) dX13_go_178 (by decide) ?_
                      refine zs_put 0 dX13_go_179 zf_RX13_170 rfl (Nat.le_of_ble_eq_true rfl) (zPv_i _) ?_
                      show zS _ _ _ _ _ _ [(mo, .inr (11, fMo e (upd (upd (upd g 5 (nI Q)) 6 (nI Q)) 7 (nI 1)) w)), ((e 1), .inl (0, 740, .inl (nF bt)))]
                      refine zs_aload_n dX13_go_182 rfl rfl ?_
                      refine zs_iload_n dX13_go_183 rfl ?_
                      refine zs_put 0 dX13_go_184 zf_RX13_180 rfl (Nat.le_of_ble_eq_true rfl) (zPv_i _) ?_
                      show zS _ _ _ _ _ _ [(mo, .inr (11, fMo e (upd (upd (upd (upd g 5 (nI Q)) 6 (nI Q)) 7 (nI 1)) 9 (nI (bt Q))) w)), ((e 1), .inl (0, 740, .inl (nF bt)))]
                      refine zs_aload_n dX13_go_187 rfl rfl ?_
                      refine zs_dup dX13_go_188 rfl ?_
                      refine zs_get 0 dX13_go_189 zf_RX13_161 rfl (v := .int (nI Q)) rfl ?_
                      refine zs_iconst (v := nI 1) dX13_go_192 (by decide) ?_
                      refine zs_iadd dX13_go_193 ?_
                      refine zs_as (y := nI (Q + 1)) (nI_add _ _) ?_
                      refine zs_put 0 dX13_go_194 zf_RX13_161 rfl (Nat.le_of_ble_eq_true rfl) (zPv_i _) ?_
                      show zS _ _ _ _ _ _ [(mo, .inr (11, fMo e (upd (upd (upd (upd g 5 (nI (Q + 1))) 6 (nI Q)) 7 (nI 1)) 9 (nI (bt Q))) w)), ((e 1), .inl (0, 740, .inl (nF bt)))]
                      exact zs_vret dX13_go_197 rfl ⟨rfl, (upd (upd (upd (upd g 5 (nI (Q + 1))) 6 (nI Q)) 7 (nI 1)) 9 (nI (bt Q))), w, (mFr_u (mFr_u (mFr_u (mFr_u mFr_r (by decide)) (by decide)) (by decide)) (by decide)), fun v => by rw [hlat v, if_neg (show ¬ isS (bt Q) = true from fun h => absurd (of_decide_eq_true h) (by omega))]; exact ⟨fun h => absurd (show (1 : Nat) = 0 from h) (by decide), fun _ => ⟨rfl, rfl, rfl⟩, fun h => absurd (show (1 : Nat) = 3 from h) (by decide), fun h => absurd (show (1 : Nat) = 4 from h) (by decide), fun h => absurd (show (1 : Nat) = 2 from h) (by decide)⟩, rfl⟩
                    · have c_10 : (bt Q) = 41 := by have hc := c_10; rw [nI_eq' (by omega) (by omega)] at hc; exact hc
                      refine zs_iconst (v := nI 4) dX13_go_174 (by decide) ?_
                      refine zs_goto (tgt := 179) dX13_go_175 (by decide) ?_
                      refine zs_put 0 dX13_go_179 zf_RX13_170 rfl (Nat.le_of_ble_eq_true rfl) (zPv_i _) ?_
                      show zS _ _ _ _ _ _ [(mo, .inr (11, fMo e (upd (upd (upd g 5 (nI Q)) 6 (nI Q)) 7 (nI 4)) w)), ((e 1), .inl (0, 740, .inl (nF bt)))]
                      refine zs_aload_n dX13_go_182 rfl rfl ?_
                      refine zs_iload_n dX13_go_183 rfl ?_
                      refine zs_put 0 dX13_go_184 zf_RX13_180 rfl (Nat.le_of_ble_eq_true rfl) (zPv_i _) ?_
                      show zS _ _ _ _ _ _ [(mo, .inr (11, fMo e (upd (upd (upd (upd g 5 (nI Q)) 6 (nI Q)) 7 (nI 4)) 9 (nI (bt Q))) w)), ((e 1), .inl (0, 740, .inl (nF bt)))]
                      refine zs_aload_n dX13_go_187 rfl rfl ?_
                      refine zs_dup dX13_go_188 rfl ?_
                      refine zs_get 0 dX13_go_189 zf_RX13_161 rfl (v := .int (nI Q)) rfl ?_
                      refine zs_iconst (v := nI 1) dX13_go_192 (by decide) ?_
                      refine zs_iadd dX13_go_193 ?_
                      refine zs_as (y := nI (Q + 1)) (nI_add _ _) ?_
                      refine zs_put 0 dX13_go_194 zf_RX13_161 rfl (Nat.le_of_ble_eq_true rfl) (zPv_i _) ?_
                      show zS _ _ _ _ _ _ [(mo, .inr (11, fMo e (upd (upd (upd (upd g 5 (nI (Q + 1))) 6 (nI Q)) 7 (nI 4)) 9 (nI (bt Q))) w)), ((e 1), .inl (0, 740, .inl (nF bt)))]
                      exact zs_vret dX13_go_197 rfl ⟨rfl, (upd (upd (upd (upd g 5 (nI (Q + 1))) 6 (nI Q)) 7 (nI 4)) 9 (nI (bt Q))), w, (mFr_u (mFr_u (mFr_u (mFr_u mFr_r (by decide)) (by decide)) (by decide)) (by decide)), fun v => by rw [hlat v, if_pos (show isS (bt Q) = true from decide_eq_true (by omega))]; exact ⟨fun h => absurd (show (4 : Nat) = 0 from h) (by decide), fun _ => ⟨rfl, rfl, rfl⟩, fun h => absurd (show (4 : Nat) = 3 from h) (by decide), fun _ => rfl, fun h => absurd (show (4 : Nat) = 2 from h) (by decide)⟩, rfl⟩
    · have c_2 : ¬ (Q < n) := by have hc := c_2; rw [nI_lt' (by omega) (by omega)] at hc; exact hc
      refine zs_aload_n dX13_go_107 rfl rfl ?_
      refine zs_iconst (v := nI 0) dX13_go_108 (by decide) ?_
      refine zs_put 0 dX13_go_109 zf_RX13_170 rfl (Nat.le_of_ble_eq_true rfl) (zPv_i _) ?_
      show zS _ _ _ _ _ _ [(mo, .inr (11, fMo e (upd (upd (upd g 5 (nI Q)) 6 (nI Q)) 7 (nI 0)) w)), ((e 1), .inl (0, 740, .inl (nF bt)))]
      exact zs_vret dX13_go_112 rfl ⟨rfl, (upd (upd (upd g 5 (nI Q)) 6 (nI Q)) 7 (nI 0)), w, (mFr_u (mFr_u (mFr_u mFr_r (by decide)) (by decide)) (by decide)), fun v => by obtain ⟨e1, e2, e3⟩ := mQ_3 (L := L) (v := v) hpn hQ (by omega) (by omega); rw [e1]; exact mTk_e rfl ⟨fun h => by omega, fun _ => ⟨rfl, by rw [← e3]; rfl⟩⟩, rfl⟩
  · have c_1 : ¬ (n ≤ L) := by have hc := c_1; rw [nI_le' (by omega) (by omega)] at hc; exact hc
    refine zs_aload_n dX13_go_71 rfl rfl ?_
    refine zs_get 0 dX13_go_72 zf_RX13_164 rfl (v := .int (nI Q)) rfl ?_
    refine zs_aload_n dX13_go_75 rfl rfl ?_
    refine zs_get 0 dX13_go_76 zf_RX13_167 rfl (v := .int (g 4)) rfl ?_
    refine zs_as (y := nI L) h4 ?_
    refine zs_icmp_lt (tgt := 96) dX13_go_79 (by decide) (fun c_11 => ?_) (fun c_11 => ?_)
    · have c_11 : Q < L := by have hc := c_11; rw [nI_lt' (by omega) (by omega)] at hc; exact hc
      refine zs_aload_n dX13_go_96 rfl rfl ?_
      refine zs_get 0 dX13_go_97 zf_RX13_161 rfl (v := .int (nI Q)) rfl ?_
      refine zs_aload_n dX13_go_100 rfl rfl ?_
      refine zs_get 0 dX13_go_101 zf_RX13_158 rfl (v := .int (g 3)) rfl ?_
      refine zs_as (y := nI n) h3 ?_
      refine zs_icmp_lt (tgt := 113) dX13_go_104 (by decide) (fun c_12 => ?_) (fun c_12 => ?_)
      · have c_12 : Q < n := by have hc := c_12; rw [nI_lt' (by omega) (by omega)] at hc; exact hc
        have hmq := mQ_1 (L := L) hpn hQ (by omega) (by omega)
        have hbq := hbt Q
        refine zs_aload_n dX13_go_113 rfl rfl ?_
        refine zs_get 0 dX13_go_114 zf_RX13_7 rfl (v := .ref (e 1)) rfl ?_
        refine zs_aload_n dX13_go_117 rfl rfl ?_
        refine zs_get 0 dX13_go_118 zf_RX13_161 rfl (v := .int (nI Q)) rfl ?_
        refine zs_iald 1 dX13_go_121 rfl (vp_in_nI (by omega) (by omega)) ?_
        refine zs_as (y := nI (bt Q)) (by rw [nI_c (n := Q) (by omega)]; rfl) ?_
        refine zs_istore_n (lv' := [(1, .int (nI (bt Q))), (0, .ref mo)]) dX13_go_122 (Nat.le_of_ble_eq_true rfl) rfl ?_
        refine zs_iload_n dX13_go_123 rfl ?_
        refine zs_callS (M := mX13_isLetter) (As := [.int (nI (bt Q))]) (st := []) (Kc := []) (Kr := [(mo, .inr (11, fMo e (upd (upd g 5 (nI Q)) 6 (nI Q)) w)), ((e 1), .inl (0, 740, .inl (nF bt)))]) [] [0, 1] dX13_go_124 zl_RX13_173 kX13_isLetter rfl rfl rfl rfl rfl (by decide) (show dd - 1 + 1 ≤ dd by omega) (Nat.zero_le _) (Nat.zero_le _) (Nat.le_of_ble_eq_true rfl) (s_mIsL l (dd - 1) (bt Q) (hbt _)) (fun r K1 hr => ?_)
        obtain ⟨rfl, rfl⟩ := hr
        refine zs_K (K' := [(mo, .inr (11, fMo e (upd (upd g 5 (nI Q)) 6 (nI Q)) w)), ((e 1), .inl (0, 740, .inl (nF bt)))]) [0, 1] rfl (by decide) ?_
        refine zs_if_ne (tgt := 198) dX13_go_127 (by decide) (fun c_13 => ?_) (fun c_13 => ?_)
        · have yl := c_13
          refine zs_iload_n dX13_go_198 rfl ?_
          refine zs_callS (M := mX13_isLetter) (As := [.int (nI (bt Q))]) (st := []) (Kc := []) (Kr := [(mo, .inr (11, fMo e (upd (upd g 5 (nI Q)) 6 (nI Q)) w)), ((e 1), .inl (0, 740, .inl (nF bt)))]) [] [0, 1] dX13_go_199 zl_RX13_173 kX13_isLetter rfl rfl rfl rfl rfl (by decide) (show dd - 1 + 1 ≤ dd by omega) (Nat.zero_le _) (Nat.zero_le _) (Nat.le_of_ble_eq_true rfl) (s_mIsL l (dd - 1) (bt Q) (hbt _)) (fun r K1 hr => ?_)
          obtain ⟨rfl, rfl⟩ := hr
          refine zs_K (K' := [(mo, .inr (11, fMo e (upd (upd g 5 (nI Q)) 6 (nI Q)) w)), ((e 1), .inl (0, 740, .inl (nF bt)))]) [0, 1] rfl (by decide) ?_
          refine zs_istore_n (lv' := [(2, .int (bI (isL (bt Q)))), (1, .int (nI (bt Q))), (0, .ref mo)]) dX13_go_202 (Nat.le_of_ble_eq_true rfl) rfl ?_
          refine zs_iconst (v := nI 1) dX13_go_203 (by decide) ?_
          refine zs_istore_n (lv' := [(3, .int (nI 1)), (2, .int (bI (isL (bt Q)))), (1, .int (nI (bt Q))), (0, .ref mo)]) dX13_go_204 (Nat.le_of_ble_eq_true rfl) rfl ?_
          refine zs_aload_n dX13_go_205 rfl rfl ?_
          refine zs_lconst (v := 0) dX13_go_206 (by decide) ?_
          refine zs_put 0 dX13_go_207 zf_RX13_183 rfl (Nat.le_of_ble_eq_true rfl) (zPv_j _) ?_
          show zS _ _ _ _ _ _ [(mo, .inr (11, fMo e (upd (upd g 5 (nI Q)) 6 (nI Q)) 0)), ((e 1), .inl (0, 740, .inl (nF bt)))]
          refine zs_aload_n dX13_go_210 rfl rfl ?_
          refine zs_iconst (v := nI 0) dX13_go_211 (by decide) ?_
          refine zs_put 0 dX13_go_212 zf_RX13_187 rfl (Nat.le_of_ble_eq_true rfl) (zPv_i _) ?_
          show zS _ _ _ _ _ _ [(mo, .inr (11, fMo e (upd (upd (upd g 5 (nI Q)) 6 (nI Q)) 8 (nI 0)) 0)), ((e 1), .inl (0, 740, .inl (nF bt)))]
          refine zs_lv [3, 2, 1, 0] rfl ?_
          have hlat : ∀ v, (lAt bt n (min n L) (lSk bt (min n L) (min n L - p) p) v) = lTk bt Q (lRun bt n (n - Q) Q) := fun v => by rw [hmq.1, lAt, if_neg (by omega)]; rw [if_pos (bI_t yl)]
          have hE1 : Q + 1 ≤ lRun bt n (n - Q) Q := by rw [show n - Q = (n - (Q + 1)) + 1 by omega, lRun, if_pos ⟨by omega, by rw [bI_t yl, Bool.true_or]⟩]; exact (lRun_le _ _).2
          have hEn : lRun bt n (n - Q) Q ≤ n := by have h := (lRun_le (b := bt) (n := n) (n - Q) Q).1; omega
          show zS _ 0 0 215 [(0, .ref mo), (1, .int (nI (bt Q))), (2, .int (bI (isL (bt Q)))), (3, .int (bI (mGd bt Q 0)))] [] [(mo, .inr (11, fMo e (upd (upd (upd g 5 (nI (Q + 0))) 6 (nI Q)) 8 (mNb bt Q 0)) (mWd bt Q 0))), ((e 1), .inl (0, 740, .inl (nF bt)))]
          refine lp_mrun mo e g w n L bt Q hd hn hL hbt h3 h4 (by omega) (lRun bt n (n - Q) Q) (fun K hK => ?_) (n - Q) 0 (by omega) rfl
          rw [← hK] at hlat hE1 hEn
          have isl : isL (bt Q) = true := bI_t yl
          refine zs_aload_n dX13_go_351 rfl rfl ?_
          refine zs_iload_n dX13_go_352 rfl ?_
          refine zs_if_eq (tgt := 379) dX13_go_353 (by decide) (fun c_1 => ?_) (fun c_1 => ?_)
          · refine zs_iconst (v := nI 1) dX13_go_379 (by decide) ?_
            refine zs_goto (tgt := 392) dX13_go_380 (by decide) ?_
            refine zs_put 0 dX13_go_392 zf_RX13_170 rfl (Nat.le_of_ble_eq_true rfl) (zPv_i _) ?_
            show zS _ _ _ _ _ _ [(mo, .inr (11, fMo e (upd (upd (upd (upd g 5 (nI (Q + K))) 6 (nI Q)) 7 (nI 1)) 8 (mNb bt Q K)) (mWd bt Q K))), ((e 1), .inl (0, 740, .inl (nF bt)))]
            exact zs_vret dX13_go_395 rfl ⟨rfl, (upd (upd (upd (upd g 5 (nI (Q + K))) 6 (nI Q)) 7 (nI 1)) 8 (mNb bt Q K)), (mWd bt Q K), (mFr_u (mFr_u (mFr_u (mFr_u mFr_r (by decide)) (by decide)) (by decide)) (by decide)), fun v => by rw [hlat v, lTk_1 (by omega) (Or.inl (bI_f c_1))]; exact ⟨fun h => absurd (show (1 : Nat) = 0 from h) (by decide), fun _ => ⟨rfl, rfl, rfl⟩, fun h => absurd (show (1 : Nat) = 3 from h) (by decide), fun h => absurd (show (1 : Nat) = 4 from h) (by decide), fun h => absurd (show (1 : Nat) = 2 from h) (by decide)⟩, rfl⟩
          · refine zs_aload_n dX13_go_356 rfl rfl ?_
            refine zs_get 0 dX13_go_357 zf_RX13_161 rfl (v := .int (nI (Q + K))) rfl ?_
            refine zs_aload_n dX13_go_360 rfl rfl ?_
            refine zs_get 0 dX13_go_361 zf_RX13_164 rfl (v := .int (nI Q)) rfl ?_
            refine zs_isub dX13_go_364 ?_
            refine zs_as (y := nI K) (by rw [nI_sub (by omega)]; exact congrArg nI (by omega)) ?_
            refine zs_iload_n dX13_go_365 rfl ?_
            refine zs_if_eq (tgt := 374) dX13_go_366 (by decide) (fun c_2 => (absurd c_2 (by rw [isl]; decide) : False).elim) (fun c_2 => ?_)
            refine zs_bipush (v := nI 6) dX13_go_369 (by decide) ?_
            refine zs_goto (tgt := 376) dX13_go_371 (by decide) ?_
            refine zs_icmp_le (tgt := 383) dX13_go_376 (by decide) (fun c_3 => ?_) (fun c_3 => ?_)
            · have c_3 : K ≤ 6 := by have hc := c_3; rw [nI_le' (by omega) (by omega)] at hc; exact hc
              refine zs_iload_n dX13_go_383 rfl ?_
              refine zs_if_eq (tgt := 391) dX13_go_384 (by decide) (fun c_4 => (absurd c_4 (by rw [isl]; decide) : False).elim) (fun c_4 => ?_)
              refine zs_iconst (v := nI 2) dX13_go_387 (by decide) ?_
              refine zs_goto (tgt := 392) dX13_go_388 (by decide) ?_
              refine zs_put 0 dX13_go_392 zf_RX13_170 rfl (Nat.le_of_ble_eq_true rfl) (zPv_i _) ?_
              show zS _ _ _ _ _ _ [(mo, .inr (11, fMo e (upd (upd (upd (upd g 5 (nI (Q + K))) 6 (nI Q)) 7 (nI 2)) 8 (mNb bt Q K)) (mWd bt Q K))), ((e 1), .inl (0, 740, .inl (nF bt)))]
              exact zs_vret dX13_go_395 rfl ⟨rfl, (upd (upd (upd (upd g 5 (nI (Q + K))) 6 (nI Q)) 7 (nI 2)) 8 (mNb bt Q K)), (mWd bt Q K), (mFr_u (mFr_u (mFr_u (mFr_u mFr_r (by decide)) (by decide)) (by decide)) (by decide)), fun v => by rw [hlat v, lTk_w (fun j hj => (mGd_t K (bI_t c_1) j hj).trans isl) (by omega)]; exact ⟨fun h => absurd (show (2 : Nat) = 0 from h) (by decide), fun _ => ⟨rfl, rfl, rfl⟩, fun h => absurd (show (2 : Nat) = 3 from h) (by decide), fun h => absurd (show (2 : Nat) = 4 from h) (by decide), fun _ => mWd_l K (by omega) hbt (fun j hj => (mGd_t K (bI_t c_1) j hj).trans isl)⟩, rfl⟩
            · have c_3 : ¬ (K ≤ 6) := by have hc := c_3; rw [nI_le' (by omega) (by omega)] at hc; exact hc
              refine zs_iconst (v := nI 1) dX13_go_379 (by decide) ?_
              refine zs_goto (tgt := 392) dX13_go_380 (by decide) ?_
              refine zs_put 0 dX13_go_392 zf_RX13_170 rfl (Nat.le_of_ble_eq_true rfl) (zPv_i _) ?_
              show zS _ _ _ _ _ _ [(mo, .inr (11, fMo e (upd (upd (upd (upd g 5 (nI (Q + K))) 6 (nI Q)) 7 (nI 1)) 8 (mNb bt Q K)) (mWd bt Q K))), ((e 1), .inl (0, 740, .inl (nF bt)))]
              exact zs_vret dX13_go_395 rfl ⟨rfl, (upd (upd (upd (upd g 5 (nI (Q + K))) 6 (nI Q)) 7 (nI 1)) 8 (mNb bt Q K)), (mWd bt Q K), (mFr_u (mFr_u (mFr_u (mFr_u mFr_r (by decide)) (by decide)) (by decide)) (by decide)), fun v => by rw [hlat v, lTk_1 (by omega) (Or.inr (Or.inl ⟨bI_t c_1, isl, by omega⟩))]; exact ⟨fun h => absurd (show (1 : Nat) = 0 from h) (by decide), fun _ => ⟨rfl, rfl, rfl⟩, fun h => absurd (show (1 : Nat) = 3 from h) (by decide), fun h => absurd (show (1 : Nat) = 4 from h) (by decide), fun h => absurd (show (1 : Nat) = 2 from h) (by decide)⟩, rfl⟩
        · have nl := c_13
          refine zs_iload_n dX13_go_130 rfl ?_
          refine zs_callS (M := mX13_isDigit) (As := [.int (nI (bt Q))]) (st := []) (Kc := []) (Kr := [(mo, .inr (11, fMo e (upd (upd g 5 (nI Q)) 6 (nI Q)) w)), ((e 1), .inl (0, 740, .inl (nF bt)))]) [] [0, 1] dX13_go_131 zl_RX13_177 kX13_isDigit rfl rfl rfl rfl rfl (by decide) (show dd - 1 + 1 ≤ dd by omega) (Nat.zero_le _) (Nat.zero_le _) (Nat.le_of_ble_eq_true rfl) (s_mIsD l (dd - 1) (bt Q) (hbt _)) (fun r K1 hr => ?_)
          obtain ⟨rfl, rfl⟩ := hr
          refine zs_K (K' := [(mo, .inr (11, fMo e (upd (upd g 5 (nI Q)) 6 (nI Q)) w)), ((e 1), .inl (0, 740, .inl (nF bt)))]) [0, 1] rfl (by decide) ?_
          refine zs_if_ne (tgt := 198) dX13_go_134 (by decide) (fun c_14 => ?_) (fun c_14 => ?_)
          · have yd := c_14
            refine zs_iload_n dX13_go_198 rfl ?_
            refine zs_callS (M := mX13_isLetter) (As := [.int (nI (bt Q))]) (st := []) (Kc := []) (Kr := [(mo, .inr (11, fMo e (upd (upd g 5 (nI Q)) 6 (nI Q)) w)), ((e 1), .inl (0, 740, .inl (nF bt)))]) [] [0, 1] dX13_go_199 zl_RX13_173 kX13_isLetter rfl rfl rfl rfl rfl (by decide) (show dd - 1 + 1 ≤ dd by omega) (Nat.zero_le _) (Nat.zero_le _) (Nat.le_of_ble_eq_true rfl) (s_mIsL l (dd - 1) (bt Q) (hbt _)) (fun r K1 hr => ?_)
            obtain ⟨rfl, rfl⟩ := hr
            refine zs_K (K' := [(mo, .inr (11, fMo e (upd (upd g 5 (nI Q)) 6 (nI Q)) w)), ((e 1), .inl (0, 740, .inl (nF bt)))]) [0, 1] rfl (by decide) ?_
            refine zs_istore_n (lv' := [(2, .int (bI (isL (bt Q)))), (1, .int (nI (bt Q))), (0, .ref mo)]) dX13_go_202 (Nat.le_of_ble_eq_true rfl) rfl ?_
            refine zs_iconst (v := nI 1) dX13_go_203 (by decide) ?_
            refine zs_istore_n (lv' := [(3, .int (nI 1)), (2, .int (bI (isL (bt Q)))), (1, .int (nI (bt Q))), (0, .ref mo)]) dX13_go_204 (Nat.le_of_ble_eq_true rfl) rfl ?_
            refine zs_aload_n dX13_go_205 rfl rfl ?_
            refine zs_lconst (v := 0) dX13_go_206 (by decide) ?_
            refine zs_put 0 dX13_go_207 zf_RX13_183 rfl (Nat.le_of_ble_eq_true rfl) (zPv_j _) ?_
            show zS _ _ _ _ _ _ [(mo, .inr (11, fMo e (upd (upd g 5 (nI Q)) 6 (nI Q)) 0)), ((e 1), .inl (0, 740, .inl (nF bt)))]
            refine zs_aload_n dX13_go_210 rfl rfl ?_
            refine zs_iconst (v := nI 0) dX13_go_211 (by decide) ?_
            refine zs_put 0 dX13_go_212 zf_RX13_187 rfl (Nat.le_of_ble_eq_true rfl) (zPv_i _) ?_
            show zS _ _ _ _ _ _ [(mo, .inr (11, fMo e (upd (upd (upd g 5 (nI Q)) 6 (nI Q)) 8 (nI 0)) 0)), ((e 1), .inl (0, 740, .inl (nF bt)))]
            refine zs_lv [3, 2, 1, 0] rfl ?_
            have hlat : ∀ v, (lAt bt n (min n L) (lSk bt (min n L) (min n L - p) p) v) = lTk bt Q (lRun bt n (n - Q) Q) := fun v => by rw [hmq.1, lAt, if_neg (by omega)]; rw [if_neg (by rw [bI_f nl]; decide), if_pos (bI_t yd)]
            have hE1 : Q + 1 ≤ lRun bt n (n - Q) Q := by rw [show n - Q = (n - (Q + 1)) + 1 by omega, lRun, if_pos ⟨by omega, by rw [bI_t yd, Bool.or_true]⟩]; exact (lRun_le _ _).2
            have hEn : lRun bt n (n - Q) Q ≤ n := by have h := (lRun_le (b := bt) (n := n) (n - Q) Q).1; omega
            show zS _ 0 0 215 [(0, .ref mo), (1, .int (nI (bt Q))), (2, .int (bI (isL (bt Q)))), (3, .int (bI (mGd bt Q 0)))] [] [(mo, .inr (11, fMo e (upd (upd (upd g 5 (nI (Q + 0))) 6 (nI Q)) 8 (mNb bt Q 0)) (mWd bt Q 0))), ((e 1), .inl (0, 740, .inl (nF bt)))]
            refine lp_mrun mo e g w n L bt Q hd hn hL hbt h3 h4 (by omega) (lRun bt n (n - Q) Q) (fun K hK => ?_) (n - Q) 0 (by omega) rfl
            rw [← hK] at hlat hE1 hEn
            have isl : isL (bt Q) = false := bI_f nl
            refine zs_aload_n dX13_go_351 rfl rfl ?_
            refine zs_iload_n dX13_go_352 rfl ?_
            refine zs_if_eq (tgt := 379) dX13_go_353 (by decide) (fun c_1 => ?_) (fun c_1 => ?_)
            · refine zs_iconst (v := nI 1) dX13_go_379 (by decide) ?_
              refine zs_goto (tgt := 392) dX13_go_380 (by decide) ?_
              refine zs_put 0 dX13_go_392 zf_RX13_170 rfl (Nat.le_of_ble_eq_true rfl) (zPv_i _) ?_
              show zS _ _ _ _ _ _ [(mo, .inr (11, fMo e (upd (upd (upd (upd g 5 (nI (Q + K))) 6 (nI Q)) 7 (nI 1)) 8 (mNb bt Q K)) (mWd bt Q K))), ((e 1), .inl (0, 740, .inl (nF bt)))]
              exact zs_vret dX13_go_395 rfl ⟨rfl, (upd (upd (upd (upd g 5 (nI (Q + K))) 6 (nI Q)) 7 (nI 1)) 8 (mNb bt Q K)), (mWd bt Q K), (mFr_u (mFr_u (mFr_u (mFr_u mFr_r (by decide)) (by decide)) (by decide)) (by decide)), fun v => by rw [hlat v, lTk_1 (by omega) (Or.inl (bI_f c_1))]; exact ⟨fun h => absurd (show (1 : Nat) = 0 from h) (by decide), fun _ => ⟨rfl, rfl, rfl⟩, fun h => absurd (show (1 : Nat) = 3 from h) (by decide), fun h => absurd (show (1 : Nat) = 4 from h) (by decide), fun h => absurd (show (1 : Nat) = 2 from h) (by decide)⟩, rfl⟩
            · refine zs_aload_n dX13_go_356 rfl rfl ?_
              refine zs_get 0 dX13_go_357 zf_RX13_161 rfl (v := .int (nI (Q + K))) rfl ?_
              refine zs_aload_n dX13_go_360 rfl rfl ?_
              refine zs_get 0 dX13_go_361 zf_RX13_164 rfl (v := .int (nI Q)) rfl ?_
              refine zs_isub dX13_go_364 ?_
              refine zs_as (y := nI K) (by rw [nI_sub (by omega)]; exact congrArg nI (by omega)) ?_
              refine zs_iload_n dX13_go_365 rfl ?_
              refine zs_if_eq (tgt := 374) dX13_go_366 (by decide) (fun c_2 => ?_) (fun c_2 => (c_2 (by rw [isl]; rfl) : False).elim)
              refine zs_bipush (v := nI 8) dX13_go_374 (by decide) ?_
              refine zs_icmp_le (tgt := 383) dX13_go_376 (by decide) (fun c_3 => ?_) (fun c_3 => ?_)
              · have c_3 : K ≤ 8 := by have hc := c_3; rw [nI_le' (by omega) (by omega)] at hc; exact hc
                refine zs_iload_n dX13_go_383 rfl ?_
                refine zs_if_eq (tgt := 391) dX13_go_384 (by decide) (fun c_4 => ?_) (fun c_4 => (c_4 (by rw [isl]; rfl) : False).elim)
                refine zs_iconst (v := nI 3) dX13_go_391 (by decide) ?_
                refine zs_put 0 dX13_go_392 zf_RX13_170 rfl (Nat.le_of_ble_eq_true rfl) (zPv_i _) ?_
                show zS _ _ _ _ _ _ [(mo, .inr (11, fMo e (upd (upd (upd (upd g 5 (nI (Q + K))) 6 (nI Q)) 7 (nI 3)) 8 (mNb bt Q K)) (mWd bt Q K))), ((e 1), .inl (0, 740, .inl (nF bt)))]
                exact zs_vret dX13_go_395 rfl ⟨rfl, (upd (upd (upd (upd g 5 (nI (Q + K))) 6 (nI Q)) 7 (nI 3)) 8 (mNb bt Q K)), (mWd bt Q K), (mFr_u (mFr_u (mFr_u (mFr_u mFr_r (by decide)) (by decide)) (by decide)) (by decide)), fun v => by rw [hlat v, lTk_n (by omega) (fun j hj => (mGd_t K (bI_t c_1) j hj).trans isl) (by omega)]; exact ⟨fun h => absurd (show (3 : Nat) = 0 from h) (by decide), fun _ => ⟨rfl, rfl, rfl⟩, fun _ => mNb_d K (by omega) (fun j hj => ⟨(fun j hj => (mGd_t K (bI_t c_1) j hj).trans isl) j hj, mrunD hK hj ((fun j hj => (mGd_t K (bI_t c_1) j hj).trans isl) j hj)⟩), fun h => absurd (show (3 : Nat) = 4 from h) (by decide), fun h => absurd (show (3 : Nat) = 2 from h) (by decide)⟩, rfl⟩
              · have c_3 : ¬ (K ≤ 8) := by have hc := c_3; rw [nI_le' (by omega) (by omega)] at hc; exact hc
                refine zs_iconst (v := nI 1) dX13_go_379 (by decide) ?_
                refine zs_goto (tgt := 392) dX13_go_380 (by decide) ?_
                refine zs_put 0 dX13_go_392 zf_RX13_170 rfl (Nat.le_of_ble_eq_true rfl) (zPv_i _) ?_
                show zS _ _ _ _ _ _ [(mo, .inr (11, fMo e (upd (upd (upd (upd g 5 (nI (Q + K))) 6 (nI Q)) 7 (nI 1)) 8 (mNb bt Q K)) (mWd bt Q K))), ((e 1), .inl (0, 740, .inl (nF bt)))]
                exact zs_vret dX13_go_395 rfl ⟨rfl, (upd (upd (upd (upd g 5 (nI (Q + K))) 6 (nI Q)) 7 (nI 1)) 8 (mNb bt Q K)), (mWd bt Q K), (mFr_u (mFr_u (mFr_u (mFr_u mFr_r (by decide)) (by decide)) (by decide)) (by decide)), fun v => by rw [hlat v, lTk_1 (by omega) (Or.inr (Or.inr ⟨bI_t c_1, isl, by omega⟩))]; exact ⟨fun h => absurd (show (1 : Nat) = 0 from h) (by decide), fun _ => ⟨rfl, rfl, rfl⟩, fun h => absurd (show (1 : Nat) = 3 from h) (by decide), fun h => absurd (show (1 : Nat) = 4 from h) (by decide), fun h => absurd (show (1 : Nat) = 2 from h) (by decide)⟩, rfl⟩
          · have nd := c_14
            have hlat : ∀ v, (lAt bt n (min n L) (lSk bt (min n L) (min n L - p) p) v) = ((if isS (bt Q) = true then 4 else 1), Q, Q + 1, bt Q, none) := fun v => by rw [hmq.1, lAt, if_neg (by omega), if_neg (by rw [bI_f nl]; decide), if_neg (by rw [bI_f nd]; decide)]
            refine zs_aload_n dX13_go_137 rfl rfl ?_
            refine zs_iload_n dX13_go_138 rfl ?_
            refine zs_bipush (v := nI 59) dX13_go_139 (by decide) ?_
            refine zs_icmp_eq (tgt := 174) dX13_go_141 (by decide) (fun c_15 => ?_) (fun c_15 => ?_)
            · have c_15 : (bt Q) = 59 := by have hc := c_15; rw [nI_eq' (by omega) (by omega)] at hc; exact hc
              refine zs_iconst (v := nI 4) dX13_go_174 (by decide) ?_
              refine zs_goto (tgt := 179) dX13_go_175 (by decide) ?_
              refine zs_put 0 dX13_go_179 zf_RX13_170 rfl (Nat.le_of_ble_eq_true rfl) (zPv_i _) ?_
              show zS _ _ _ _ _ _ [(mo, .inr (11, fMo e (upd (upd (upd g 5 (nI Q)) 6 (nI Q)) 7 (nI 4)) w)), ((e 1), .inl (0, 740, .inl (nF bt)))]
              refine zs_aload_n dX13_go_182 rfl rfl ?_
              refine zs_iload_n dX13_go_183 rfl ?_
              refine zs_put 0 dX13_go_184 zf_RX13_180 rfl (Nat.le_of_ble_eq_true rfl) (zPv_i _) ?_
              show zS _ _ _ _ _ _ [(mo, .inr (11, fMo e (upd (upd (upd (upd g 5 (nI Q)) 6 (nI Q)) 7 (nI 4)) 9 (nI (bt Q))) w)), ((e 1), .inl (0, 740, .inl (nF bt)))]
              refine zs_aload_n dX13_go_187 rfl rfl ?_
              refine zs_dup dX13_go_188 rfl ?_
              refine zs_get 0 dX13_go_189 zf_RX13_161 rfl (v := .int (nI Q)) rfl ?_
              refine zs_iconst (v := nI 1) dX13_go_192 (by decide) ?_
              refine zs_iadd dX13_go_193 ?_
              refine zs_as (y := nI (Q + 1)) (nI_add _ _) ?_
              refine zs_put 0 dX13_go_194 zf_RX13_161 rfl (Nat.le_of_ble_eq_true rfl) (zPv_i _) ?_
              show zS _ _ _ _ _ _ [(mo, .inr (11, fMo e (upd (upd (upd (upd g 5 (nI (Q + 1))) 6 (nI Q)) 7 (nI 4)) 9 (nI (bt Q))) w)), ((e 1), .inl (0, 740, .inl (nF bt)))]
              exact zs_vret dX13_go_197 rfl ⟨rfl, (upd (upd (upd (upd g 5 (nI (Q + 1))) 6 (nI Q)) 7 (nI 4)) 9 (nI (bt Q))), w, (mFr_u (mFr_u (mFr_u (mFr_u mFr_r (by decide)) (by decide)) (by decide)) (by decide)), fun v => by rw [hlat v, if_pos (show isS (bt Q) = true from decide_eq_true (by omega))]; exact ⟨fun h => absurd (show (4 : Nat) = 0 from h) (by decide), fun _ => ⟨rfl, rfl, rfl⟩, fun h => absurd (show (4 : Nat) = 3 from h) (by decide), fun _ => rfl, fun h => absurd (show (4 : Nat) = 2 from h) (by decide)⟩, rfl⟩
            · have c_15 : ¬ ((bt Q) = 59) := by have hc := c_15; rw [nI_eq' (by omega) (by omega)] at hc; exact hc
              refine zs_iload_n dX13_go_144 rfl ?_
              refine zs_bipush (v := nI 60) dX13_go_145 (by decide) ?_
              refine zs_icmp_eq (tgt := 174) dX13_go_147 (by decide) (fun c_16 => ?_) (fun c_16 => ?_)
              · have c_16 : (bt Q) = 60 := by have hc := c_16; rw [nI_eq' (by omega) (by omega)] at hc; exact hc
                refine zs_iconst (v := nI 4) dX13_go_174 (by decide) ?_
                refine zs_goto (tgt := 179) dX13_go_175 (by decide) ?_
                refine zs_put 0 dX13_go_179 zf_RX13_170 rfl (Nat.le_of_ble_eq_true rfl) (zPv_i _) ?_
                show zS _ _ _ _ _ _ [(mo, .inr (11, fMo e (upd (upd (upd g 5 (nI Q)) 6 (nI Q)) 7 (nI 4)) w)), ((e 1), .inl (0, 740, .inl (nF bt)))]
                refine zs_aload_n dX13_go_182 rfl rfl ?_
                refine zs_iload_n dX13_go_183 rfl ?_
                refine zs_put 0 dX13_go_184 zf_RX13_180 rfl (Nat.le_of_ble_eq_true rfl) (zPv_i _) ?_
                show zS _ _ _ _ _ _ [(mo, .inr (11, fMo e (upd (upd (upd (upd g 5 (nI Q)) 6 (nI Q)) 7 (nI 4)) 9 (nI (bt Q))) w)), ((e 1), .inl (0, 740, .inl (nF bt)))]
                refine zs_aload_n dX13_go_187 rfl rfl ?_
                refine zs_dup dX13_go_188 rfl ?_
                refine zs_get 0 dX13_go_189 zf_RX13_161 rfl (v := .int (nI Q)) rfl ?_
                refine zs_iconst (v := nI 1) dX13_go_192 (by decide) ?_
                refine zs_iadd dX13_go_193 ?_
                refine zs_as (y := nI (Q + 1)) (nI_add _ _) ?_
                refine zs_put 0 dX13_go_194 zf_RX13_161 rfl (Nat.le_of_ble_eq_true rfl) (zPv_i _) ?_
                show zS _ _ _ _ _ _ [(mo, .inr (11, fMo e (upd (upd (upd (upd g 5 (nI (Q + 1))) 6 (nI Q)) 7 (nI 4)) 9 (nI (bt Q))) w)), ((e 1), .inl (0, 740, .inl (nF bt)))]
                exact zs_vret dX13_go_197 rfl ⟨rfl, (upd (upd (upd (upd g 5 (nI (Q + 1))) 6 (nI Q)) 7 (nI 4)) 9 (nI (bt Q))), w, (mFr_u (mFr_u (mFr_u (mFr_u mFr_r (by decide)) (by decide)) (by decide)) (by decide)), fun v => by rw [hlat v, if_pos (show isS (bt Q) = true from decide_eq_true (by omega))]; exact ⟨fun h => absurd (show (4 : Nat) = 0 from h) (by decide), fun _ => ⟨rfl, rfl, rfl⟩, fun h => absurd (show (4 : Nat) = 3 from h) (by decide), fun _ => rfl, fun h => absurd (show (4 : Nat) = 2 from h) (by decide)⟩, rfl⟩
              · have c_16 : ¬ ((bt Q) = 60) := by have hc := c_16; rw [nI_eq' (by omega) (by omega)] at hc; exact hc
                refine zs_iload_n dX13_go_150 rfl ?_
                refine zs_bipush (v := nI 61) dX13_go_151 (by decide) ?_
                refine zs_icmp_eq (tgt := 174) dX13_go_153 (by decide) (fun c_17 => ?_) (fun c_17 => ?_)
                · have c_17 : (bt Q) = 61 := by have hc := c_17; rw [nI_eq' (by omega) (by omega)] at hc; exact hc
                  refine zs_iconst (v := nI 4) dX13_go_174 (by decide) ?_
                  refine zs_goto (tgt := 179) dX13_go_175 (by decide) ?_
                  refine zs_put 0 dX13_go_179 zf_RX13_170 rfl (Nat.le_of_ble_eq_true rfl) (zPv_i _) ?_
                  show zS _ _ _ _ _ _ [(mo, .inr (11, fMo e (upd (upd (upd g 5 (nI Q)) 6 (nI Q)) 7 (nI 4)) w)), ((e 1), .inl (0, 740, .inl (nF bt)))]
                  refine zs_aload_n dX13_go_182 rfl rfl ?_
                  refine zs_iload_n dX13_go_183 rfl ?_
                  refine zs_put 0 dX13_go_184 zf_RX13_180 rfl (Nat.le_of_ble_eq_true rfl) (zPv_i _) ?_
                  show zS _ _ _ _ _ _ [(mo, .inr (11, fMo e (upd (upd (upd (upd g 5 (nI Q)) 6 (nI Q)) 7 (nI 4)) 9 (nI (bt Q))) w)), ((e 1), .inl (0, 740, .inl (nF bt)))]
                  refine zs_aload_n dX13_go_187 rfl rfl ?_
                  refine zs_dup dX13_go_188 rfl ?_
                  refine zs_get 0 dX13_go_189 zf_RX13_161 rfl (v := .int (nI Q)) rfl ?_
                  refine zs_iconst (v := nI 1) dX13_go_192 (by decide) ?_
                  refine zs_iadd dX13_go_193 ?_
                  refine zs_as (y := nI (Q + 1)) (nI_add _ _) ?_
                  refine zs_put 0 dX13_go_194 zf_RX13_161 rfl (Nat.le_of_ble_eq_true rfl) (zPv_i _) ?_
                  show zS _ _ _ _ _ _ [(mo, .inr (11, fMo e (upd (upd (upd (upd g 5 (nI (Q + 1))) 6 (nI Q)) 7 (nI 4)) 9 (nI (bt Q))) w)), ((e 1), .inl (0, 740, .inl (nF bt)))]
                  exact zs_vret dX13_go_197 rfl ⟨rfl, (upd (upd (upd (upd g 5 (nI (Q + 1))) 6 (nI Q)) 7 (nI 4)) 9 (nI (bt Q))), w, (mFr_u (mFr_u (mFr_u (mFr_u mFr_r (by decide)) (by decide)) (by decide)) (by decide)), fun v => by rw [hlat v, if_pos (show isS (bt Q) = true from decide_eq_true (by omega))]; exact ⟨fun h => absurd (show (4 : Nat) = 0 from h) (by decide), fun _ => ⟨rfl, rfl, rfl⟩, fun h => absurd (show (4 : Nat) = 3 from h) (by decide), fun _ => rfl, fun h => absurd (show (4 : Nat) = 2 from h) (by decide)⟩, rfl⟩
                · have c_17 : ¬ ((bt Q) = 61) := by have hc := c_17; rw [nI_eq' (by omega) (by omega)] at hc; exact hc
                  refine zs_iload_n dX13_go_156 rfl ?_
                  refine zs_bipush (v := nI 62) dX13_go_157 (by decide) ?_
                  refine zs_icmp_eq (tgt := 174) dX13_go_159 (by decide) (fun c_18 => ?_) (fun c_18 => ?_)
                  · have c_18 : (bt Q) = 62 := by have hc := c_18; rw [nI_eq' (by omega) (by omega)] at hc; exact hc
                    refine zs_iconst (v := nI 4) dX13_go_174 (by decide) ?_
                    refine zs_goto (tgt := 179) dX13_go_175 (by decide) ?_
                    refine zs_put 0 dX13_go_179 zf_RX13_170 rfl (Nat.le_of_ble_eq_true rfl) (zPv_i _) ?_
                    show zS _ _ _ _ _ _ [(mo, .inr (11, fMo e (upd (upd (upd g 5 (nI Q)) 6 (nI Q)) 7 (nI 4)) w)), ((e 1), .inl (0, 740, .inl (nF bt)))]
                    refine zs_aload_n dX13_go_182 rfl rfl ?_
                    refine zs_iload_n dX13_go_183 rfl ?_
                    refine zs_put 0 dX13_go_184 zf_RX13_180 rfl (Nat.le_of_ble_eq_true rfl) (zPv_i _) ?_
                    show zS _ _ _ _ _ _ [(mo, .inr (11, fMo e (upd (upd (upd (upd g 5 (nI Q)) 6 (nI Q)) 7 (nI 4)) 9 (nI (bt Q))) w)), ((e 1), .inl (0, 740, .inl (nF bt)))]
                    refine zs_aload_n dX13_go_187 rfl rfl ?_
                    refine zs_dup dX13_go_188 rfl ?_
                    refine zs_get 0 dX13_go_189 zf_RX13_161 rfl (v := .int (nI Q)) rfl ?_
                    refine zs_iconst (v := nI 1) dX13_go_192 (by decide) ?_
                    refine zs_iadd dX13_go_193 ?_
                    refine zs_as (y := nI (Q + 1)) (nI_add _ _) ?_
                    refine zs_put 0 dX13_go_194 zf_RX13_161 rfl (Nat.le_of_ble_eq_true rfl) (zPv_i _) ?_
                    show zS _ _ _ _ _ _ [(mo, .inr (11, fMo e (upd (upd (upd (upd g 5 (nI (Q + 1))) 6 (nI Q)) 7 (nI 4)) 9 (nI (bt Q))) w)), ((e 1), .inl (0, 740, .inl (nF bt)))]
                    exact zs_vret dX13_go_197 rfl ⟨rfl, (upd (upd (upd (upd g 5 (nI (Q + 1))) 6 (nI Q)) 7 (nI 4)) 9 (nI (bt Q))), w, (mFr_u (mFr_u (mFr_u (mFr_u mFr_r (by decide)) (by decide)) (by decide)) (by decide)), fun v => by rw [hlat v, if_pos (show isS (bt Q) = true from decide_eq_true (by omega))]; exact ⟨fun h => absurd (show (4 : Nat) = 0 from h) (by decide), fun _ => ⟨rfl, rfl, rfl⟩, fun h => absurd (show (4 : Nat) = 3 from h) (by decide), fun _ => rfl, fun h => absurd (show (4 : Nat) = 2 from h) (by decide)⟩, rfl⟩
                  · have c_18 : ¬ ((bt Q) = 62) := by have hc := c_18; rw [nI_eq' (by omega) (by omega)] at hc; exact hc
                    refine zs_iload_n dX13_go_162 rfl ?_
                    refine zs_bipush (v := nI 40) dX13_go_163 (by decide) ?_
                    refine zs_icmp_eq (tgt := 174) dX13_go_165 (by decide) (fun c_19 => ?_) (fun c_19 => ?_)
                    · have c_19 : (bt Q) = 40 := by have hc := c_19; rw [nI_eq' (by omega) (by omega)] at hc; exact hc
                      refine zs_iconst (v := nI 4) dX13_go_174 (by decide) ?_
                      refine zs_goto (tgt := 179) dX13_go_175 (by decide) ?_
                      refine zs_put 0 dX13_go_179 zf_RX13_170 rfl (Nat.le_of_ble_eq_true rfl) (zPv_i _) ?_
                      show zS _ _ _ _ _ _ [(mo, .inr (11, fMo e (upd (upd (upd g 5 (nI Q)) 6 (nI Q)) 7 (nI 4)) w)), ((e 1), .inl (0, 740, .inl (nF bt)))]
                      refine zs_aload_n dX13_go_182 rfl rfl ?_
                      refine zs_iload_n dX13_go_183 rfl ?_
                      refine zs_put 0 dX13_go_184 zf_RX13_180 rfl (Nat.le_of_ble_eq_true rfl) (zPv_i _) ?_
                      show zS _ _ _ _ _ _ [(mo, .inr (11, fMo e (upd (upd (upd (upd g 5 (nI Q)) 6 (nI Q)) 7 (nI 4)) 9 (nI (bt Q))) w)), ((e 1), .inl (0, 740, .inl (nF bt)))]
                      refine zs_aload_n dX13_go_187 rfl rfl ?_
                      refine zs_dup dX13_go_188 rfl ?_
                      refine zs_get 0 dX13_go_189 zf_RX13_161 rfl (v := .int (nI Q)) rfl ?_
                      refine zs_iconst (v := nI 1) dX13_go_192 (by decide) ?_
                      refine zs_iadd dX13_go_193 ?_
                      refine zs_as (y := nI (Q + 1)) (nI_add _ _) ?_
                      refine zs_put 0 dX13_go_194 zf_RX13_161 rfl (Nat.le_of_ble_eq_true rfl) (zPv_i _) ?_
                      show zS _ _ _ _ _ _ [(mo, .inr (11, fMo e (upd (upd (upd (upd g 5 (nI (Q + 1))) 6 (nI Q)) 7 (nI 4)) 9 (nI (bt Q))) w)), ((e 1), .inl (0, 740, .inl (nF bt)))]
                      exact zs_vret dX13_go_197 rfl ⟨rfl, (upd (upd (upd (upd g 5 (nI (Q + 1))) 6 (nI Q)) 7 (nI 4)) 9 (nI (bt Q))), w, (mFr_u (mFr_u (mFr_u (mFr_u mFr_r (by decide)) (by decide)) (by decide)) (by decide)), fun v => by rw [hlat v, if_pos (show isS (bt Q) = true from decide_eq_true (by omega))]; exact ⟨fun h => absurd (show (4 : Nat) = 0 from h) (by decide), fun _ => ⟨rfl, rfl, rfl⟩, fun h => absurd (show (4 : Nat) = 3 from h) (by decide), fun _ => rfl, fun h => absurd (show (4 : Nat) = 2 from h) (by decide)⟩, rfl⟩
                    · have c_19 : ¬ ((bt Q) = 40) := by have hc := c_19; rw [nI_eq' (by omega) (by omega)] at hc; exact hc
                      refine zs_iload_n dX13_go_168 rfl ?_
                      refine zs_bipush (v := nI 41) dX13_go_169 (by decide) ?_
                      refine zs_icmp_ne (tgt := 178) dX13_go_171 (by decide) (fun c_20 => ?_) (fun c_20 => ?_)
                      · have c_20 : ¬ ((bt Q) = 41) := by have hc := c_20; rw [nI_eq' (by omega) (by omega)] at hc; exact hc
                        refine zs_iconst (v := nI 1) dX13_go_178 (by decide) ?_
                        refine zs_put 0 dX13_go_179 zf_RX13_170 rfl (Nat.le_of_ble_eq_true rfl) (zPv_i _) ?_
                        show zS _ _ _ _ _ _ [(mo, .inr (11, fMo e (upd (upd (upd g 5 (nI Q)) 6 (nI Q)) 7 (nI 1)) w)), ((e 1), .inl (0, 740, .inl (nF bt)))]
                        refine zs_aload_n dX13_go_182 rfl rfl ?_
                        refine zs_iload_n dX13_go_183 rfl ?_
                        refine zs_put 0 dX13_go_184 zf_RX13_180 rfl (Nat.le_of_ble_eq_true rfl) (zPv_i _) ?_
                        show zS _ _ _ _ _ _ [(mo, .inr (11, fMo e (upd (upd (upd (upd g 5 (nI Q)) 6 (nI Q)) 7 (nI 1)) 9 (nI (bt Q))) w)), ((e 1), .inl (0, 740, .inl (nF bt)))]
                        refine zs_aload_n dX13_go_187 rfl rfl ?_
                        refine zs_dup dX13_go_188 rfl ?_
                        refine zs_get 0 dX13_go_189 zf_RX13_161 rfl (v := .int (nI Q)) rfl ?_
                        refine zs_iconst (v := nI 1) dX13_go_192 (by decide) ?_
                        refine zs_iadd dX13_go_193 ?_
                        refine zs_as (y := nI (Q + 1)) (nI_add _ _) ?_
                        refine zs_put 0 dX13_go_194 zf_RX13_161 rfl (Nat.le_of_ble_eq_true rfl) (zPv_i _) ?_
                        show zS _ _ _ _ _ _ [(mo, .inr (11, fMo e (upd (upd (upd (upd g 5 (nI (Q + 1))) 6 (nI Q)) 7 (nI 1)) 9 (nI (bt Q))) w)), ((e 1), .inl (0, 740, .inl (nF bt)))]
                        exact zs_vret dX13_go_197 rfl ⟨rfl, (upd (upd (upd (upd g 5 (nI (Q + 1))) 6 (nI Q)) 7 (nI 1)) 9 (nI (bt Q))), w, (mFr_u (mFr_u (mFr_u (mFr_u mFr_r (by decide)) (by decide)) (by decide)) (by decide)), fun v => by rw [hlat v, if_neg (show ¬ isS (bt Q) = true from fun h => absurd (of_decide_eq_true h) (by omega))]; exact ⟨fun h => absurd (show (1 : Nat) = 0 from h) (by decide), fun _ => ⟨rfl, rfl, rfl⟩, fun h => absurd (show (1 : Nat) = 3 from h) (by decide), fun h => absurd (show (1 : Nat) = 4 from h) (by decide), fun h => absurd (show (1 : Nat) = 2 from h) (by decide)⟩, rfl⟩
                      · have c_20 : (bt Q) = 41 := by have hc := c_20; rw [nI_eq' (by omega) (by omega)] at hc; exact hc
                        refine zs_iconst (v := nI 4) dX13_go_174 (by decide) ?_
                        refine zs_goto (tgt := 179) dX13_go_175 (by decide) ?_
                        refine zs_put 0 dX13_go_179 zf_RX13_170 rfl (Nat.le_of_ble_eq_true rfl) (zPv_i _) ?_
                        show zS _ _ _ _ _ _ [(mo, .inr (11, fMo e (upd (upd (upd g 5 (nI Q)) 6 (nI Q)) 7 (nI 4)) w)), ((e 1), .inl (0, 740, .inl (nF bt)))]
                        refine zs_aload_n dX13_go_182 rfl rfl ?_
                        refine zs_iload_n dX13_go_183 rfl ?_
                        refine zs_put 0 dX13_go_184 zf_RX13_180 rfl (Nat.le_of_ble_eq_true rfl) (zPv_i _) ?_
                        show zS _ _ _ _ _ _ [(mo, .inr (11, fMo e (upd (upd (upd (upd g 5 (nI Q)) 6 (nI Q)) 7 (nI 4)) 9 (nI (bt Q))) w)), ((e 1), .inl (0, 740, .inl (nF bt)))]
                        refine zs_aload_n dX13_go_187 rfl rfl ?_
                        refine zs_dup dX13_go_188 rfl ?_
                        refine zs_get 0 dX13_go_189 zf_RX13_161 rfl (v := .int (nI Q)) rfl ?_
                        refine zs_iconst (v := nI 1) dX13_go_192 (by decide) ?_
                        refine zs_iadd dX13_go_193 ?_
                        refine zs_as (y := nI (Q + 1)) (nI_add _ _) ?_
                        refine zs_put 0 dX13_go_194 zf_RX13_161 rfl (Nat.le_of_ble_eq_true rfl) (zPv_i _) ?_
                        show zS _ _ _ _ _ _ [(mo, .inr (11, fMo e (upd (upd (upd (upd g 5 (nI (Q + 1))) 6 (nI Q)) 7 (nI 4)) 9 (nI (bt Q))) w)), ((e 1), .inl (0, 740, .inl (nF bt)))]
                        exact zs_vret dX13_go_197 rfl ⟨rfl, (upd (upd (upd (upd g 5 (nI (Q + 1))) 6 (nI Q)) 7 (nI 4)) 9 (nI (bt Q))), w, (mFr_u (mFr_u (mFr_u (mFr_u mFr_r (by decide)) (by decide)) (by decide)) (by decide)), fun v => by rw [hlat v, if_pos (show isS (bt Q) = true from decide_eq_true (by omega))]; exact ⟨fun h => absurd (show (4 : Nat) = 0 from h) (by decide), fun _ => ⟨rfl, rfl, rfl⟩, fun h => absurd (show (4 : Nat) = 3 from h) (by decide), fun _ => rfl, fun h => absurd (show (4 : Nat) = 2 from h) (by decide)⟩, rfl⟩
      · have c_12 : ¬ (Q < n) := by have hc := c_12; rw [nI_lt' (by omega) (by omega)] at hc; exact hc
        refine zs_aload_n dX13_go_107 rfl rfl ?_
        refine zs_iconst (v := nI 0) dX13_go_108 (by decide) ?_
        refine zs_put 0 dX13_go_109 zf_RX13_170 rfl (Nat.le_of_ble_eq_true rfl) (zPv_i _) ?_
        show zS _ _ _ _ _ _ [(mo, .inr (11, fMo e (upd (upd (upd g 5 (nI Q)) 6 (nI Q)) 7 (nI 0)) w)), ((e 1), .inl (0, 740, .inl (nF bt)))]
        exact zs_vret dX13_go_112 rfl ⟨rfl, (upd (upd (upd g 5 (nI Q)) 6 (nI Q)) 7 (nI 0)), w, (mFr_u (mFr_u (mFr_u mFr_r (by decide)) (by decide)) (by decide)), fun v => by obtain ⟨e1, e2, e3⟩ := mQ_3 (L := L) (v := v) hpn hQ (by omega) (by omega); rw [e1]; exact mTk_e rfl ⟨fun h => by omega, fun _ => ⟨rfl, by rw [← e3]; rfl⟩⟩, rfl⟩
    · have c_11 : ¬ (Q < L) := by have hc := c_11; rw [nI_lt' (by omega) (by omega)] at hc; exact hc
      refine zs_aload_n dX13_go_82 rfl rfl ?_
      refine zs_aload_n dX13_go_83 rfl rfl ?_
      refine zs_get 0 dX13_go_84 zf_RX13_167 rfl (v := .int (g 4)) rfl ?_
      refine zs_as (y := nI L) h4 ?_
      refine zs_put 0 dX13_go_87 zf_RX13_164 rfl (Nat.le_of_ble_eq_true rfl) (zPv_i _) ?_
      show zS _ _ _ _ _ _ [(mo, .inr (11, fMo e (upd (upd g 5 (nI Q)) 6 (nI L)) w)), ((e 1), .inl (0, 740, .inl (nF bt)))]
      refine zs_aload_n dX13_go_90 rfl rfl ?_
      refine zs_iconst (v := nI 1) dX13_go_91 (by decide) ?_
      refine zs_put 0 dX13_go_92 zf_RX13_170 rfl (Nat.le_of_ble_eq_true rfl) (zPv_i _) ?_
      show zS _ _ _ _ _ _ [(mo, .inr (11, fMo e (upd (upd (upd g 5 (nI Q)) 6 (nI L)) 7 (nI 1)) w)), ((e 1), .inl (0, 740, .inl (nF bt)))]
      exact zs_vret dX13_go_95 rfl ⟨rfl, (upd (upd (upd g 5 (nI Q)) 6 (nI L)) 7 (nI 1)), w, (mFr_u (mFr_u (mFr_u mFr_r (by decide)) (by decide)) (by decide)), fun v => by rw [mQ_2 (L := L) hpn hQ (by omega) (by omega) v]; exact mTk_e rfl ⟨fun _ => ⟨rfl, rfl⟩, fun h => by omega⟩, rfl⟩
