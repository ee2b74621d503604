/-! ===== the reference: a line ===== -/
/-- a line and its end -/
def mLn (b : Nat → Nat) (n L : Nat) (τ : zTk) (tk : Nat) (D : zYd) : zPy :=
  if (pLine b n L τ tk D).1 = 0 then (if tAt (pLine b n L τ tk D).2.1 59 = true then (0, nxt b n L (pLine b n L τ tk D).2.1, (pLine b n L τ tk D).2.2) else (1, (pLine b n L τ tk D).2)) else pLine b n L τ tk D
theorem zSw_0 : ∀ i, i < 29 → (∀ w, w < 10 → mPm w ≠ i) → zSwN.getD i 0 = 0 := by decide +kernel
section
variable {b : Nat → Nat} {n L : Nat} {τ : zTk} {tk : Nat} {D : zYd}
theorem pLine_0 (hO : tOK τ) (h : ∀ w, w < 10 → ¬ τ.2.2.2.2 = some (mPm w)) : pLine b n L τ tk D = (1, τ, tk, D) := by
  cases hw : τ.2.2.2.2 with
  | none => exact pLine_n hw
  | some i =>
    have hz := zSw_0 i (hO.2.2.2.2.2.2.2.1 i hw) (fun w hw2 e => h w hw2 (by rw [hw, e]))
    rw [pLine_s hw, hz]
    rfl
theorem pLine_w0 (h : τ.2.2.2.2 = some (mPm 0)) : pLine b n L τ tk D = pMan b n L τ tk D := by
  rw [pLine_s h]; rfl
theorem pLine_w1 (h : τ.2.2.2.2 = some (mPm 1)) : pLine b n L τ tk D = pCells b n L τ tk D := by
  rw [pLine_s h]; rfl
theorem pLine_w2 (h : τ.2.2.2.2 = some (mPm 2)) : pLine b n L τ tk D = pBurn b n L τ tk D := by
  rw [pLine_s h]; rfl
theorem pLine_w3 (h : τ.2.2.2.2 = some (mPm 3)) : pLine b n L τ tk D = mOn b n L 3 τ tk D := by
  rw [pLine_s h]; rfl
theorem pLine_w4 (h : τ.2.2.2.2 = some (mPm 4)) : pLine b n L τ tk D = mOn b n L 4 τ tk D := by
  rw [pLine_s h]; rfl
theorem pLine_w5 (h : τ.2.2.2.2 = some (mPm 5)) : pLine b n L τ tk D = mOn b n L 5 τ tk D := by
  rw [pLine_s h]; rfl
theorem pLine_w6 (h : τ.2.2.2.2 = some (mPm 6)) : pLine b n L τ tk D = mOn b n L 6 τ tk D := by
  rw [pLine_s h]; rfl
theorem pLine_w7 (h : τ.2.2.2.2 = some (mPm 7)) : pLine b n L τ tk D = mOn b n L 7 τ tk D := by
  rw [pLine_s h]; rfl
theorem pLine_w8 (h : τ.2.2.2.2 = some (mPm 8)) : pLine b n L τ tk D = mOn b n L 8 τ tk D := by
  rw [pLine_s h]; rfl
theorem pLine_w9 (h : τ.2.2.2.2 = some (mPm 9)) : pLine b n L τ tk D = mOn b n L 9 τ tk D := by
  rw [pLine_s h]; rfl
end
theorem dX13_readLine_0 : decode cX13_readLine 0 = .ok (.iconst 0, 1) := by decide +kernel
theorem dX13_readLine_1 : decode cX13_readLine 1 = .ok (.istore_n 1, 1) := by decide +kernel
theorem dX13_readLine_2 : decode cX13_readLine 2 = .ok (.iload_n 1, 1) := by decide +kernel
theorem dX13_readLine_3 : decode cX13_readLine 3 = .ok (.bipush 9, 2) := by decide +kernel
theorem dX13_readLine_5 : decode cX13_readLine 5 = .ok (.if_icmp .gt 17, 3) := by decide +kernel
theorem dX13_readLine_8 : decode cX13_readLine 8 = .ok (.aload_n 0, 1) := by decide +kernel
theorem dX13_readLine_9 : decode cX13_readLine 9 = .ok (.iload_n 1, 1) := by decide +kernel
theorem dX13_readLine_10 : decode cX13_readLine 10 = .ok (.invokevirtual 264, 3) := by decide +kernel
theorem dX13_readLine_13 : decode cX13_readLine 13 = .ok (.ifCond .ne 9, 3) := by decide +kernel
theorem dX13_readLine_16 : decode cX13_readLine 16 = .ok (.iinc 1 1, 3) := by decide +kernel
theorem dX13_readLine_19 : decode cX13_readLine 19 = .ok (.goto (-17), 3) := by decide +kernel
theorem dX13_readLine_22 : decode cX13_readLine 22 = .ok (.iload_n 1, 1) := by decide +kernel
theorem dX13_readLine_23 : decode cX13_readLine 23 = .ok (.bipush 9, 2) := by decide +kernel
theorem dX13_readLine_25 : decode cX13_readLine 25 = .ok (.if_icmp .le 9, 3) := by decide +kernel
theorem dX13_readLine_28 : decode cX13_readLine 28 = .ok (.aload_n 0, 1) := by decide +kernel
theorem dX13_readLine_29 : decode cX13_readLine 29 = .ok (.iconst 1, 1) := by decide +kernel
theorem dX13_readLine_30 : decode cX13_readLine 30 = .ok (.invokevirtual 216, 3) := by decide +kernel
theorem dX13_readLine_33 : decode cX13_readLine 33 = .ok (.ireturn, 1) := by decide +kernel
theorem dX13_readLine_34 : decode cX13_readLine 34 = .ok (.iload_n 1, 1) := by decide +kernel
theorem dX13_readLine_35 : decode cX13_readLine 35 = .ok (.ifCond .ne 10, 3) := by decide +kernel
theorem dX13_readLine_38 : decode cX13_readLine 38 = .ok (.aload_n 0, 1) := by decide +kernel
theorem dX13_readLine_39 : decode cX13_readLine 39 = .ok (.invokevirtual 267, 3) := by decide +kernel
theorem dX13_readLine_42 : decode cX13_readLine 42 = .ok (.goto 32, 3) := by decide +kernel
theorem dX13_readLine_45 : decode cX13_readLine 45 = .ok (.iload_n 1, 1) := by decide +kernel
theorem dX13_readLine_46 : decode cX13_readLine 46 = .ok (.iconst 1, 1) := by decide +kernel
theorem dX13_readLine_47 : decode cX13_readLine 47 = .ok (.if_icmp .ne 10, 3) := by decide +kernel
theorem dX13_readLine_50 : decode cX13_readLine 50 = .ok (.aload_n 0, 1) := by decide +kernel
theorem dX13_readLine_51 : decode cX13_readLine 51 = .ok (.invokevirtual 270, 3) := by decide +kernel
theorem dX13_readLine_54 : decode cX13_readLine 54 = .ok (.goto 20, 3) := by decide +kernel
theorem dX13_readLine_57 : decode cX13_readLine 57 = .ok (.iload_n 1, 1) := by decide +kernel
theorem dX13_readLine_58 : decode cX13_readLine 58 = .ok (.iconst 2, 1) := by decide +kernel
theorem dX13_readLine_59 : decode cX13_readLine 59 = .ok (.if_icmp .ne 10, 3) := by decide +kernel
theorem dX13_readLine_62 : decode cX13_readLine 62 = .ok (.aload_n 0, 1) := by decide +kernel
theorem dX13_readLine_63 : decode cX13_readLine 63 = .ok (.invokevirtual 273, 3) := by decide +kernel
theorem dX13_readLine_66 : decode cX13_readLine 66 = .ok (.goto 8, 3) := by decide +kernel
theorem dX13_readLine_69 : decode cX13_readLine 69 = .ok (.aload_n 0, 1) := by decide +kernel
theorem dX13_readLine_70 : decode cX13_readLine 70 = .ok (.iload_n 1, 1) := by decide +kernel
theorem dX13_readLine_71 : decode cX13_readLine 71 = .ok (.invokevirtual 276, 3) := by decide +kernel
theorem dX13_readLine_74 : decode cX13_readLine 74 = .ok (.istore_n 2, 1) := by decide +kernel
theorem dX13_readLine_75 : decode cX13_readLine 75 = .ok (.iload_n 2, 1) := by decide +kernel
theorem dX13_readLine_76 : decode cX13_readLine 76 = .ok (.ifCond .eq 14, 3) := by decide +kernel
theorem dX13_readLine_79 : decode cX13_readLine 79 = .ok (.aload_n 0, 1) := by decide +kernel
theorem dX13_readLine_80 : decode cX13_readLine 80 = .ok (.invokevirtual 279, 3) := by decide +kernel
theorem dX13_readLine_83 : decode cX13_readLine 83 = .ok (.ifCond .eq 7, 3) := by decide +kernel
theorem dX13_readLine_86 : decode cX13_readLine 86 = .ok (.iconst 1, 1) := by decide +kernel
theorem dX13_readLine_87 : decode cX13_readLine 87 = .ok (.goto 4, 3) := by decide +kernel
theorem dX13_readLine_90 : decode cX13_readLine 90 = .ok (.iconst 0, 1) := by decide +kernel
theorem dX13_readLine_91 : decode cX13_readLine 91 = .ok (.ireturn, 1) := by decide +kernel
set_option maxRecDepth 100000 in
theorem s_mReadLine (l : Launch) (dd : Nat) (mo : Nat) (e : Nat → Nat) (g : Nat → Int32) (w : Int64) (n L : Nat) (bt : Nat → Nat) (t : zTk) (tk : Nat) (D : zYd) (rf : Nat → Int32) (rn : Nat → Int64) (hd : 6 ≤ dd) (hn : n ≤ 740) (hL : L ≤ 740) (hbt : ∀ j, bt j < 256) (h3 : g 3 = nI n) (h4 : g 4 = nI L) (hT : mTk n L t g w) (hW : tW n L t) (hO : tOK t) (hD : yI D) (hRd : rdR D g rf rn) : zSp l mX13_readLine dd 0 0 [.ref mo] [(mo, .inr (11, fMo e g w)), ((e 1), .inl (0, 740, .inl (nF bt))), ((e 15), .inl (0, 200, .inl rf)), ((e 19), .inl (2, 12, .inr (.inl rn)))] (fun r K' => ((mLn bt n L t tk D).1 = 0 ∧ r = some (.int 1) ∧ ∃ g' w' rf' rn', mFr [5, 6, 7, 8, 9, 13, 23] g g' ∧ mTk n L (mLn bt n L t tk D).2.1 g' w' ∧ tW n L (mLn bt n L t tk D).2.1 ∧ rdR (mLn bt n L t tk D).2.2.2 g' rf' rn' ∧ K' = [(mo, .inr (11, fMo e g' w'))] ++ ([((e 1), .inl (0, 740, .inl (nF bt)))] ++ ([((e 15), .inl (0, 200, .inl rf'))] ++ [((e 19), .inl (2, 12, .inr (.inl rn')))]))) ∨ (¬ (mLn bt n L t tk D).1 = 0 ∧ r = some (.int 0) ∧ ∃ g' w' rf' rn', mFr [5, 6, 7, 8, 9, 10, 11, 13, 23] g g' ∧ g' 10 = nI (mLn bt n L t tk D).1 ∧ g' 11 = nI (mLn bt n L t tk D).2.1.2.1 ∧ K' = [(mo, .inr (11, fMo e g' w'))] ++ ([((e 1), .inl (0, 740, .inl (nF bt)))] ++ ([((e 15), .inl (0, 200, .inl rf'))] ++ [((e 19), .inl (2, 12, .inr (.inl rn')))])))) := by
  refine zSp.of (by decide) (Nat.le_of_ble_eq_true rfl) (fun h0 => ?_)
  show zS _ 0 0 0 [(0, .ref mo)] [] [(mo, .inr (11, fMo e g w)), ((e 1), .inl (0, 740, .inl (nF bt))), ((e 15), .inl (0, 200, .inl rf)), ((e 19), .inl (2, 12, .inr (.inl rn)))]

  refine zs_iconst (v := nI 0) dX13_readLine_0 (by decide) ?_
  refine zs_istore_n (lv' := [(1, .int (nI 0)), (0, .ref mo)]) dX13_readLine_1 (Nat.le_of_ble_eq_true rfl) rfl ?_
  refine zs_iload_n dX13_readLine_2 rfl ?_
  refine zs_bipush (v := nI 9) dX13_readLine_3 (by decide) ?_
  refine zs_icmp_gt (tgt := 22) dX13_readLine_5 (by decide) (fun c_1 => (by first | exact absurd c_1 (by decide) | exact absurd (by decide) c_1 : False).elim) (fun c_1 => ?_)
  refine zs_aload_n dX13_readLine_8 rfl rfl ?_
  refine zs_iload_n dX13_readLine_9 rfl ?_
  refine zs_callV (M := mX13_isWord) (As := [.int (nI 0)]) (st := []) (Kc := [(mo, .inr (11, fMo e g w))]) (Kr := [((e 1), .inl (0, 740, .inl (nF bt))), ((e 15), .inl (0, 200, .inl rf)), ((e 19), .inl (2, 12, .inr (.inl rn)))]) [0] [1, 2, 3] 0 dX13_readLine_10 zl_RX13_264 kX13_isWord rfl rfl rfl rfl rfl (by decide) rfl rfl (show dd - 1 + 1 ≤ dd by omega) (Nat.zero_le _) (Nat.zero_le _) (Nat.le_of_ble_eq_true rfl) (s_mIsWord l (dd - 1) mo e g w n L t 0 (by omega) (by omega) hT hW hO) (fun r K1 hr => ?_)
  obtain ⟨rfl, rfl⟩ := hr
  refine zs_K (K' := [(mo, .inr (11, fMo e g w)), ((e 1), .inl (0, 740, .inl (nF bt))), ((e 15), .inl (0, 200, .inl rf)), ((e 19), .inl (2, 12, .inr (.inl rn)))]) [3, 0, 1, 2] rfl (by decide) ?_
  refine zs_if_ne (tgt := 22) dX13_readLine_13 (by decide) (fun c_2 => ?_) (fun c_2 => ?_)
  · have hwd := of_decide_eq_true (bI_t c_2)
    refine zs_iload_n dX13_readLine_22 rfl ?_
    refine zs_bipush (v := nI 9) dX13_readLine_23 (by decide) ?_
    refine zs_icmp_le (tgt := 34) dX13_readLine_25 (by decide) (fun c_3 => ?_) (fun c_3 => (by first | exact absurd c_3 (by decide) | exact absurd (by decide) c_3 : False).elim)
    refine zs_iload_n dX13_readLine_34 rfl ?_
    refine zs_if_ne (tgt := 45) dX13_readLine_35 (by decide) (fun c_4 => (by first | exact absurd c_4 (by decide) | exact absurd (by decide) c_4 : False).elim) (fun c_4 => ?_)
    refine zs_aload_n dX13_readLine_38 rfl rfl ?_
    refine zs_callV (M := mX13_readMan) (As := []) (st := []) (Kc := [(mo, .inr (11, fMo e g w)), ((e 1), .inl (0, 740, .inl (nF bt))), ((e 15), .inl (0, 200, .inl rf)), ((e 19), .inl (2, 12, .inr (.inl rn)))]) (Kr := []) [0, 1, 2, 3] [] 0 dX13_readLine_39 zl_RX13_267 kX13_readMan rfl rfl rfl rfl rfl (by decide) rfl rfl (show dd - 1 + 1 ≤ dd by omega) (Nat.zero_le _) (Nat.zero_le _) (Nat.le_of_ble_eq_true rfl) (s_mReadMan l (dd - 1) mo e g w n L bt t tk D rf rn (by omega) hn hL hbt h3 h4 hT hW hO hD hRd (hO.2.2.2.2.2.2.2.2 _ hwd)) (fun r K1 hr => ?_)
    rw [← pLine_w0 (b := bt) (n := n) (L := L) (tk := tk) (D := D) hwd] at hr
    rcases hr with ⟨hq, rfl, g1, w1, rf1, rn1, fr1, hT1, hW1, hRd1, rfl⟩ | ⟨hq, rfl, g1, w1, rf1, rn1, fr1, h10, h11, rfl⟩
    · refine zs_K (K' := [(mo, .inr (11, fMo e g1 w1)), ((e 1), .inl (0, 740, .inl (nF bt))), ((e 15), .inl (0, 200, .inl rf1)), ((e 19), .inl (2, 12, .inr (.inl rn1)))]) [0, 1, 2, 3] rfl (by decide) ?_
      refine zs_goto (tgt := 74) dX13_readLine_42 (by decide) ?_
      refine zs_istore_n (lv' := [(2, .int (nI 1)), (1, .int (nI 0)), (0, .ref mo)]) dX13_readLine_74 (Nat.le_of_ble_eq_true rfl) rfl ?_
      refine zs_iload_n dX13_readLine_75 rfl ?_
      refine zs_if_eq (tgt := 90) dX13_readLine_76 (by decide) (fun c_5 => (by first | exact absurd c_5 (by decide) | exact absurd (by decide) c_5 : False).elim) (fun c_5 => ?_)
      refine zs_aload_n dX13_readLine_79 rfl rfl ?_
      have hI := pLine_I (L := L) (tk := tk) hbt hn hO hD
      refine zs_callV (M := mX13_readEnd) (As := []) (st := []) (Kc := [(mo, .inr (11, fMo e g1 w1)), ((e 1), .inl (0, 740, .inl (nF bt)))]) (Kr := [((e 15), .inl (0, 200, .inl rf1)), ((e 19), .inl (2, 12, .inr (.inl rn1)))]) [0, 1] [2, 3] 0 dX13_readLine_80 zl_RX13_279 kX13_readEnd rfl rfl rfl rfl rfl (by decide) rfl rfl (show dd - 1 + 1 ≤ dd by omega) (Nat.zero_le _) (Nat.zero_le _) (Nat.le_of_ble_eq_true rfl) (s_mReadEnd l (dd - 1) mo e g1 w1 n L bt (pLine bt n L t tk D).2.1 (by omega) hn hL hbt ((fr1 3 (by decide)).trans h3) ((fr1 4 (by decide)).trans h4) hT1 hW1 hI.1) (fun r K1 hr => ?_)
      rcases hr with ⟨h59, rfl, g2, w2, hfr2, hT2, rfl⟩ | ⟨h59, rfl, rfl⟩
      · refine zs_K (K' := [(mo, .inr (11, fMo e g2 w2)), ((e 1), .inl (0, 740, .inl (nF bt))), ((e 15), .inl (0, 200, .inl rf1)), ((e 19), .inl (2, 12, .inr (.inl rn1)))]) [2, 3, 0, 1] rfl (by decide) ?_
        refine zs_if_eq (tgt := 90) dX13_readLine_83 (by decide) (fun c_6 => (by first | exact absurd c_6 (by decide) | exact absurd (by decide) c_6 : False).elim) (fun c_6 => ?_)
        refine zs_iconst (v := nI 1) dX13_readLine_86 (by decide) ?_
        refine zs_goto (tgt := 91) dX13_readLine_87 (by decide) ?_
        have er : (mLn bt n L t tk D) = (0, nxt bt n L (pLine bt n L t tk D).2.1, (pLine bt n L t tk D).2.2) := by rw [mLn, if_pos hq, if_pos h59]
        exact zs_zret dX13_readLine_91 rfl (Or.inr rfl) (Or.inl ⟨by rw [er], rfl, g2, w2, rf1, rn1, mFr_t fr1 hfr2 (by decide) (by decide), by rw [er]; exact hT2, by rw [er]; exact nxt_W, by rw [er]; exact ⟨hRd1.1, hRd1.2.1, (hfr2 23 (by decide)).trans hRd1.2.2⟩, rfl⟩)
      · refine zs_K (K' := [(mo, .inr (11, fMo e (mFa g1 1 (pLine bt n L t tk D).2.1) w1)), ((e 1), .inl (0, 740, .inl (nF bt))), ((e 15), .inl (0, 200, .inl rf1)), ((e 19), .inl (2, 12, .inr (.inl rn1)))]) [2, 3, 0, 1] rfl (by decide) ?_
        refine zs_if_eq (tgt := 90) dX13_readLine_83 (by decide) (fun c_7 => ?_) (fun c_7 => (by first | exact absurd c_7 (by decide) | exact absurd (by decide) c_7 : False).elim)
        refine zs_iconst (v := nI 0) dX13_readLine_90 (by decide) ?_
        have er : (mLn bt n L t tk D) = (1, (pLine bt n L t tk D).2) := by rw [mLn, if_pos hq, if_neg (fun h => by rw [h59] at h; exact absurd h (by decide))]
        exact zs_zret dX13_readLine_91 rfl (Or.inl rfl) (Or.inr ⟨by rw [er]; exact (show ¬ 1 = 0 by decide), rfl, mFa g1 1 (pLine bt n L t tk D).2.1, w1, rf1, rn1, mFr_fa fr1 (by decide) (by decide), by rw [er]; rfl, by rw [er]; rfl, rfl⟩)
    · refine zs_K (K' := [(mo, .inr (11, fMo e g1 w1)), ((e 1), .inl (0, 740, .inl (nF bt))), ((e 15), .inl (0, 200, .inl rf1)), ((e 19), .inl (2, 12, .inr (.inl rn1)))]) [0, 1, 2, 3] rfl (by decide) ?_
      refine zs_goto (tgt := 74) dX13_readLine_42 (by decide) ?_
      refine zs_istore_n (lv' := [(2, .int (nI 0)), (1, .int (nI 0)), (0, .ref mo)]) dX13_readLine_74 (Nat.le_of_ble_eq_true rfl) rfl ?_
      refine zs_iload_n dX13_readLine_75 rfl ?_
      refine zs_if_eq (tgt := 90) dX13_readLine_76 (by decide) (fun c_8 => ?_) (fun c_8 => (by first | exact absurd c_8 (by decide) | exact absurd (by decide) c_8 : False).elim)
      refine zs_iconst (v := nI 0) dX13_readLine_90 (by decide) ?_
      have er : (mLn bt n L t tk D) = (pLine bt n L t tk D) := by rw [mLn, if_neg hq]
      exact zs_zret dX13_readLine_91 rfl (Or.inl rfl) (Or.inr ⟨by rw [er]; exact hq, rfl, g1, w1, rf1, rn1, fr1, by rw [er]; exact h10, by rw [er]; exact h11, rfl⟩)
  · refine zs_iinc (v := (nI 1)) (lv' := [(1, .int (nI 1)), (0, .ref mo)]) dX13_readLine_16 rfl (nI_add _ 1) (Nat.le_of_ble_eq_true rfl) rfl ?_
    refine zs_goto (tgt := 2) dX13_readLine_19 (by decide) ?_
    refine zs_iload_n dX13_readLine_2 rfl ?_
    refine zs_bipush (v := nI 9) dX13_readLine_3 (by decide) ?_
    refine zs_icmp_gt (tgt := 22) dX13_readLine_5 (by decide) (fun c_9 => (by first | exact absurd c_9 (by decide) | exact absurd (by decide) c_9 : False).elim) (fun c_9 => ?_)
    refine zs_aload_n dX13_readLine_8 rfl rfl ?_
    refine zs_iload_n dX13_readLine_9 rfl ?_
    refine zs_callV (M := mX13_isWord) (As := [.int (nI 1)]) (st := []) (Kc := [(mo, .inr (11, fMo e g w))]) (Kr := [((e 1), .inl (0, 740, .inl (nF bt))), ((e 15), .inl (0, 200, .inl rf)), ((e 19), .inl (2, 12, .inr (.inl rn)))]) [0] [1, 2, 3] 0 dX13_readLine_10 zl_RX13_264 kX13_isWord rfl rfl rfl rfl rfl (by decide) rfl rfl (show dd - 1 + 1 ≤ dd by omega) (Nat.zero_le _) (Nat.zero_le _) (Nat.le_of_ble_eq_true rfl) (s_mIsWord l (dd - 1) mo e g w n L t 1 (by omega) (by omega) hT hW hO) (fun r K1 hr => ?_)
    obtain ⟨rfl, rfl⟩ := hr
    refine zs_K (K' := [(mo, .inr (11, fMo e g w)), ((e 1), .inl (0, 740, .inl (nF bt))), ((e 15), .inl (0, 200, .inl rf)), ((e 19), .inl (2, 12, .inr (.inl rn)))]) [3, 0, 1, 2] rfl (by decide) ?_
    refine zs_if_ne (tgt := 22) dX13_readLine_13 (by decide) (fun c_10 => ?_) (fun c_10 => ?_)
    · have hwd := of_decide_eq_true (bI_t c_10)
      refine zs_iload_n dX13_readLine_22 rfl ?_
      refine zs_bipush (v := nI 9) dX13_readLine_23 (by decide) ?_
      refine zs_icmp_le (tgt := 34) dX13_readLine_25 (by decide) (fun c_11 => ?_) (fun c_11 => (by first | exact absurd c_11 (by decide) | exact absurd (by decide) c_11 : False).elim)
      refine zs_iload_n dX13_readLine_34 rfl ?_
      refine zs_if_ne (tgt := 45) dX13_readLine_35 (by decide) (fun c_12 => ?_) (fun c_12 => (by first | exact absurd c_12 (by decide) | exact absurd (by decide) c_12 : False).elim)
      refine zs_iload_n dX13_readLine_45 rfl ?_
      refine zs_iconst (v := nI 1) dX13_readLine_46 (by decide) ?_
      refine zs_icmp_ne (tgt := 57) dX13_readLine_47 (by decide) (fun c_13 => (by first | exact absurd c_13 (by decide) | exact absurd (by decide) c_13 : False).elim) (fun c_13 => ?_)
      refine zs_aload_n dX13_readLine_50 rfl rfl ?_
      refine zs_callV (M := mX13_readCells) (As := []) (st := []) (Kc := [(mo, .inr (11, fMo e g w)), ((e 1), .inl (0, 740, .inl (nF bt))), ((e 15), .inl (0, 200, .inl rf)), ((e 19), .inl (2, 12, .inr (.inl rn)))]) (Kr := []) [0, 1, 2, 3] [] 0 dX13_readLine_51 zl_RX13_270 kX13_readCells rfl rfl rfl rfl rfl (by decide) rfl rfl (show dd - 1 + 1 ≤ dd by omega) (Nat.zero_le _) (Nat.zero_le _) (Nat.le_of_ble_eq_true rfl) (s_mReadCells l (dd - 1) mo e g w n L bt t tk D rf rn (by omega) hn hL hbt h3 h4 hT hW hO hD hRd (hO.2.2.2.2.2.2.2.2 _ hwd)) (fun r K1 hr => ?_)
      rw [← pLine_w1 (b := bt) (n := n) (L := L) (tk := tk) (D := D) hwd] at hr
      rcases hr with ⟨hq, rfl, g1, w1, rf1, rn1, fr1, hT1, hW1, hRd1, rfl⟩ | ⟨hq, rfl, g1, w1, rf1, rn1, fr1, h10, h11, rfl⟩
      · refine zs_K (K' := [(mo, .inr (11, fMo e g1 w1)), ((e 1), .inl (0, 740, .inl (nF bt))), ((e 15), .inl (0, 200, .inl rf1)), ((e 19), .inl (2, 12, .inr (.inl rn1)))]) [0, 1, 2, 3] rfl (by decide) ?_
        refine zs_goto (tgt := 74) dX13_readLine_54 (by decide) ?_
        refine zs_istore_n (lv' := [(2, .int (nI 1)), (1, .int (nI 1)), (0, .ref mo)]) dX13_readLine_74 (Nat.le_of_ble_eq_true rfl) rfl ?_
        refine zs_iload_n dX13_readLine_75 rfl ?_
        refine zs_if_eq (tgt := 90) dX13_readLine_76 (by decide) (fun c_14 => (by first | exact absurd c_14 (by decide) | exact absurd (by decide) c_14 : False).elim) (fun c_14 => ?_)
        refine zs_aload_n dX13_readLine_79 rfl rfl ?_
        have hI := pLine_I (L := L) (tk := tk) hbt hn hO hD
        refine zs_callV (M := mX13_readEnd) (As := []) (st := []) (Kc := [(mo, .inr (11, fMo e g1 w1)), ((e 1), .inl (0, 740, .inl (nF bt)))]) (Kr := [((e 15), .inl (0, 200, .inl rf1)), ((e 19), .inl (2, 12, .inr (.inl rn1)))]) [0, 1] [2, 3] 0 dX13_readLine_80 zl_RX13_279 kX13_readEnd rfl rfl rfl rfl rfl (by decide) rfl rfl (show dd - 1 + 1 ≤ dd by omega) (Nat.zero_le _) (Nat.zero_le _) (Nat.le_of_ble_eq_true rfl) (s_mReadEnd l (dd - 1) mo e g1 w1 n L bt (pLine bt n L t tk D).2.1 (by omega) hn hL hbt ((fr1 3 (by decide)).trans h3) ((fr1 4 (by decide)).trans h4) hT1 hW1 hI.1) (fun r K1 hr => ?_)
        rcases hr with ⟨h59, rfl, g2, w2, hfr2, hT2, rfl⟩ | ⟨h59, rfl, rfl⟩
        · refine zs_K (K' := [(mo, .inr (11, fMo e g2 w2)), ((e 1), .inl (0, 740, .inl (nF bt))), ((e 15), .inl (0, 200, .inl rf1)), ((e 19), .inl (2, 12, .inr (.inl rn1)))]) [2, 3, 0, 1] rfl (by decide) ?_
          refine zs_if_eq (tgt := 90) dX13_readLine_83 (by decide) (fun c_15 => (by first | exact absurd c_15 (by decide) | exact absurd (by decide) c_15 : False).elim) (fun c_15 => ?_)
          refine zs_iconst (v := nI 1) dX13_readLine_86 (by decide) ?_
          refine zs_goto (tgt := 91) dX13_readLine_87 (by decide) ?_
          have er : (mLn bt n L t tk D) = (0, nxt bt n L (pLine bt n L t tk D).2.1, (pLine bt n L t tk D).2.2) := by rw [mLn, if_pos hq, if_pos h59]
          exact zs_zret dX13_readLine_91 rfl (Or.inr rfl) (Or.inl ⟨by rw [er], rfl, g2, w2, rf1, rn1, mFr_t fr1 hfr2 (by decide) (by decide), by rw [er]; exact hT2, by rw [er]; exact nxt_W, by rw [er]; exact ⟨hRd1.1, hRd1.2.1, (hfr2 23 (by decide)).trans hRd1.2.2⟩, rfl⟩)
        · refine zs_K (K' := [(mo, .inr (11, fMo e (mFa g1 1 (pLine bt n L t tk D).2.1) w1)), ((e 1), .inl (0, 740, .inl (nF bt))), ((e 15), .inl (0, 200, .inl rf1)), ((e 19), .inl (2, 12, .inr (.inl rn1)))]) [2, 3, 0, 1] rfl (by decide) ?_
          refine zs_if_eq (tgt := 90) dX13_readLine_83 (by decide) (fun c_16 => ?_) (fun c_16 => (by first | exact absurd c_16 (by decide) | exact absurd (by decide) c_16 : False).elim)
          refine zs_iconst (v := nI 0) dX13_readLine_90 (by decide) ?_
          have er : (mLn bt n L t tk D) = (1, (pLine bt n L t tk D).2) := by rw [mLn, if_pos hq, if_neg (fun h => by rw [h59] at h; exact absurd h (by decide))]
          exact zs_zret dX13_readLine_91 rfl (Or.inl rfl) (Or.inr ⟨by rw [er]; exact (show ¬ 1 = 0 by decide), rfl, mFa g1 1 (pLine bt n L t tk D).2.1, w1, rf1, rn1, mFr_fa fr1 (by decide) (by decide), by rw [er]; rfl, by rw [er]; rfl, rfl⟩)
      · refine zs_K (K' := [(mo, .inr (11, fMo e g1 w1)), ((e 1), .inl (0, 740, .inl (nF bt))), ((e 15), .inl (0, 200, .inl rf1)), ((e 19), .inl (2, 12, .inr (.inl rn1)))]) [0, 1, 2, 3] rfl (by decide) ?_
        refine zs_goto (tgt := 74) dX13_readLine_54 (by decide) ?_
        refine zs_istore_n (lv' := [(2, .int (nI 0)), (1, .int (nI 1)), (0, .ref mo)]) dX13_readLine_74 (Nat.le_of_ble_eq_true rfl) rfl ?_
        refine zs_iload_n dX13_readLine_75 rfl ?_
        refine zs_if_eq (tgt := 90) dX13_readLine_76 (by decide) (fun c_17 => ?_) (fun c_17 => (by first | exact absurd c_17 (by decide) | exact absurd (by decide) c_17 : False).elim)
        refine zs_iconst (v := nI 0) dX13_readLine_90 (by decide) ?_
        have er : (mLn bt n L t tk D) = (pLine bt n L t tk D) := by rw [mLn, if_neg hq]
        exact zs_zret dX13_readLine_91 rfl (Or.inl rfl) (Or.inr ⟨by rw [er]; exact hq, rfl, g1, w1, rf1, rn1, fr1, by rw [er]; exact h10, by rw [er]; exact h11, rfl⟩)
    · refine zs_iinc (v := (nI 2)) (lv' := [(1, .int (nI 2)), (0, .ref mo)]) dX13_readLine_16 rfl (nI_add _ 1) (Nat.le_of_ble_eq_true rfl) rfl ?_
      refine zs_goto (tgt := 2) dX13_readLine_19 (by decide) ?_
      refine zs_iload_n dX13_readLine_2 rfl ?_
      refine zs_bipush (v := nI 9) dX13_readLine_3 (by decide) ?_
      refine zs_icmp_gt (tgt := 22) dX13_readLine_5 (by decide) (fun c_18 => (by first | exact absurd c_18 (by decide) | exact absurd (by decide) c_18 : False).elim) (fun c_18 => ?_)
      refine zs_aload_n dX13_readLine_8 rfl rfl ?_
      refine zs_iload_n dX13_readLine_9 rfl ?_
      refine zs_callV (M := mX13_isWord) (As := [.int (nI 2)]) (st := []) (Kc := [(mo, .inr (11, fMo e g w))]) (Kr := [((e 1), .inl (0, 740, .inl (nF bt))), ((e 15), .inl (0, 200, .inl rf)), ((e 19), .inl (2, 12, .inr (.inl rn)))]) [0] [1, 2, 3] 0 dX13_readLine_10 zl_RX13_264 kX13_isWord rfl rfl rfl rfl rfl (by decide) rfl rfl (show dd - 1 + 1 ≤ dd by omega) (Nat.zero_le _) (Nat.zero_le _) (Nat.le_of_ble_eq_true rfl) (s_mIsWord l (dd - 1) mo e g w n L t 2 (by omega) (by omega) hT hW hO) (fun r K1 hr => ?_)
      obtain ⟨rfl, rfl⟩ := hr
      refine zs_K (K' := [(mo, .inr (11, fMo e g w)), ((e 1), .inl (0, 740, .inl (nF bt))), ((e 15), .inl (0, 200, .inl rf)), ((e 19), .inl (2, 12, .inr (.inl rn)))]) [3, 0, 1, 2] rfl (by decide) ?_
      refine zs_if_ne (tgt := 22) dX13_readLine_13 (by decide) (fun c_19 => ?_) (fun c_19 => ?_)
      · have hwd := of_decide_eq_true (bI_t c_19)
        refine zs_iload_n dX13_readLine_22 rfl ?_
        refine zs_bipush (v := nI 9) dX13_readLine_23 (by decide) ?_
        refine zs_icmp_le (tgt := 34) dX13_readLine_25 (by decide) (fun c_20 => ?_) (fun c_20 => (by first | exact absurd c_20 (by decide) | exact absurd (by decide) c_20 : False).elim)
        refine zs_iload_n dX13_readLine_34 rfl ?_
        refine zs_if_ne (tgt := 45) dX13_readLine_35 (by decide) (fun c_21 => ?_) (fun c_21 => (by first | exact absurd c_21 (by decide) | exact absurd (by decide) c_21 : False).elim)
        refine zs_iload_n dX13_readLine_45 rfl ?_
        refine zs_iconst (v := nI 1) dX13_readLine_46 (by decide) ?_
        refine zs_icmp_ne (tgt := 57) dX13_readLine_47 (by decide) (fun c_22 => ?_) (fun c_22 => (by first | exact absurd c_22 (by decide) | exact absurd (by decide) c_22 : False).elim)
        refine zs_iload_n dX13_readLine_57 rfl ?_
        refine zs_iconst (v := nI 2) dX13_readLine_58 (by decide) ?_
        refine zs_icmp_ne (tgt := 69) dX13_readLine_59 (by decide) (fun c_23 => (by first | exact absurd c_23 (by decide) | exact absurd (by decide) c_23 : False).elim) (fun c_23 => ?_)
        refine zs_aload_n dX13_readLine_62 rfl rfl ?_
        refine zs_callV (M := mX13_readBurn) (As := []) (st := []) (Kc := [(mo, .inr (11, fMo e g w)), ((e 1), .inl (0, 740, .inl (nF bt))), ((e 15), .inl (0, 200, .inl rf)), ((e 19), .inl (2, 12, .inr (.inl rn)))]) (Kr := []) [0, 1, 2, 3] [] 0 dX13_readLine_63 zl_RX13_273 kX13_readBurn rfl rfl rfl rfl rfl (by decide) rfl rfl (show dd - 1 + 1 ≤ dd by omega) (Nat.zero_le _) (Nat.zero_le _) (Nat.le_of_ble_eq_true rfl) (s_mReadBurn l (dd - 1) mo e g w n L bt t tk D rf rn (by omega) hn hL hbt h3 h4 hT hW hO hD hRd (hO.2.2.2.2.2.2.2.2 _ hwd)) (fun r K1 hr => ?_)
        rw [← pLine_w2 (b := bt) (n := n) (L := L) (tk := tk) (D := D) hwd] at hr
        rcases hr with ⟨hq, rfl, g1, w1, rf1, rn1, fr1, hT1, hW1, hRd1, rfl⟩ | ⟨hq, rfl, g1, w1, rf1, rn1, fr1, h10, h11, rfl⟩
        · refine zs_K (K' := [(mo, .inr (11, fMo e g1 w1)), ((e 1), .inl (0, 740, .inl (nF bt))), ((e 15), .inl (0, 200, .inl rf1)), ((e 19), .inl (2, 12, .inr (.inl rn1)))]) [0, 1, 2, 3] rfl (by decide) ?_
          refine zs_goto (tgt := 74) dX13_readLine_66 (by decide) ?_
          refine zs_istore_n (lv' := [(2, .int (nI 1)), (1, .int (nI 2)), (0, .ref mo)]) dX13_readLine_74 (Nat.le_of_ble_eq_true rfl) rfl ?_
          refine zs_iload_n dX13_readLine_75 rfl ?_
          refine zs_if_eq (tgt := 90) dX13_readLine_76 (by decide) (fun c_24 => (by first | exact absurd c_24 (by decide) | exact absurd (by decide) c_24 : False).elim) (fun c_24 => ?_)
          refine zs_aload_n dX13_readLine_79 rfl rfl ?_
          have hI := pLine_I (L := L) (tk := tk) hbt hn hO hD
          refine zs_callV (M := mX13_readEnd) (As := []) (st := []) (Kc := [(mo, .inr (11, fMo e g1 w1)), ((e 1), .inl (0, 740, .inl (nF bt)))]) (Kr := [((e 15), .inl (0, 200, .inl rf1)), ((e 19), .inl (2, 12, .inr (.inl rn1)))]) [0, 1] [2, 3] 0 dX13_readLine_80 zl_RX13_279 kX13_readEnd rfl rfl rfl rfl rfl (by decide) rfl rfl (show dd - 1 + 1 ≤ dd by omega) (Nat.zero_le _) (Nat.zero_le _) (Nat.le_of_ble_eq_true rfl) (s_mReadEnd l (dd - 1) mo e g1 w1 n L bt (pLine bt n L t tk D).2.1 (by omega) hn hL hbt ((fr1 3 (by decide)).trans h3) ((fr1 4 (by decide)).trans h4) hT1 hW1 hI.1) (fun r K1 hr => ?_)
          rcases hr with ⟨h59, rfl, g2, w2, hfr2, hT2, rfl⟩ | ⟨h59, rfl, rfl⟩
          · refine zs_K (K' := [(mo, .inr (11, fMo e g2 w2)), ((e 1), .inl (0, 740, .inl (nF bt))), ((e 15), .inl (0, 200, .inl rf1)), ((e 19), .inl (2, 12, .inr (.inl rn1)))]) [2, 3, 0, 1] rfl (by decide) ?_
            refine zs_if_eq (tgt := 90) dX13_readLine_83 (by decide) (fun c_25 => (by first | exact absurd c_25 (by decide) | exact absurd (by decide) c_25 : False).elim) (fun c_25 => ?_)
            refine zs_iconst (v := nI 1) dX13_readLine_86 (by decide) ?_
            refine zs_goto (tgt := 91) dX13_readLine_87 (by decide) ?_
            have er : (mLn bt n L t tk D) = (0, nxt bt n L (pLine bt n L t tk D).2.1, (pLine bt n L t tk D).2.2) := by rw [mLn, if_pos hq, if_pos h59]
            exact zs_zret dX13_readLine_91 rfl (Or.inr rfl) (Or.inl ⟨by rw [er], rfl, g2, w2, rf1, rn1, mFr_t fr1 hfr2 (by decide) (by decide), by rw [er]; exact hT2, by rw [er]; exact nxt_W, by rw [er]; exact ⟨hRd1.1, hRd1.2.1, (hfr2 23 (by decide)).trans hRd1.2.2⟩, rfl⟩)
          · refine zs_K (K' := [(mo, .inr (11, fMo e (mFa g1 1 (pLine bt n L t tk D).2.1) w1)), ((e 1), .inl (0, 740, .inl (nF bt))), ((e 15), .inl (0, 200, .inl rf1)), ((e 19), .inl (2, 12, .inr (.inl rn1)))]) [2, 3, 0, 1] rfl (by decide) ?_
            refine zs_if_eq (tgt := 90) dX13_readLine_83 (by decide) (fun c_26 => ?_) (fun c_26 => (by first | exact absurd c_26 (by decide) | exact absurd (by decide) c_26 : False).elim)
            refine zs_iconst (v := nI 0) dX13_readLine_90 (by decide) ?_
            have er : (mLn bt n L t tk D) = (1, (pLine bt n L t tk D).2) := by rw [mLn, if_pos hq, if_neg (fun h => by rw [h59] at h; exact absurd h (by decide))]
            exact zs_zret dX13_readLine_91 rfl (Or.inl rfl) (Or.inr ⟨by rw [er]; exact (show ¬ 1 = 0 by decide), rfl, mFa g1 1 (pLine bt n L t tk D).2.1, w1, rf1, rn1, mFr_fa fr1 (by decide) (by decide), by rw [er]; rfl, by rw [er]; rfl, rfl⟩)
        · refine zs_K (K' := [(mo, .inr (11, fMo e g1 w1)), ((e 1), .inl (0, 740, .inl (nF bt))), ((e 15), .inl (0, 200, .inl rf1)), ((e 19), .inl (2, 12, .inr (.inl rn1)))]) [0, 1, 2, 3] rfl (by decide) ?_
          refine zs_goto (tgt := 74) dX13_readLine_66 (by decide) ?_
          refine zs_istore_n (lv' := [(2, .int (nI 0)), (1, .int (nI 2)), (0, .ref mo)]) dX13_readLine_74 (Nat.le_of_ble_eq_true rfl) rfl ?_
          refine zs_iload_n dX13_readLine_75 rfl ?_
          refine zs_if_eq (tgt := 90) dX13_readLine_76 (by decide) (fun c_27 => ?_) (fun c_27 => (by first | exact absurd c_27 (by decide) | exact absurd (by decide) c_27 : False).elim)
          refine zs_iconst (v := nI 0) dX13_readLine_90 (by decide) ?_
          have er : (mLn bt n L t tk D) = (pLine bt n L t tk D) := by rw [mLn, if_neg hq]
          exact zs_zret dX13_readLine_91 rfl (Or.inl rfl) (Or.inr ⟨by rw [er]; exact hq, rfl, g1, w1, rf1, rn1, fr1, by rw [er]; exact h10, by rw [er]; exact h11, rfl⟩)
      · refine zs_iinc (v := (nI 3)) (lv' := [(1, .int (nI 3)), (0, .ref mo)]) dX13_readLine_16 rfl (nI_add _ 1) (Nat.le_of_ble_eq_true rfl) rfl ?_
        refine zs_goto (tgt := 2) dX13_readLine_19 (by decide) ?_
        refine zs_iload_n dX13_readLine_2 rfl ?_
        refine zs_bipush (v := nI 9) dX13_readLine_3 (by decide) ?_
        refine zs_icmp_gt (tgt := 22) dX13_readLine_5 (by decide) (fun c_28 => (by first | exact absurd c_28 (by decide) | exact absurd (by decide) c_28 : False).elim) (fun c_28 => ?_)
        refine zs_aload_n dX13_readLine_8 rfl rfl ?_
        refine zs_iload_n dX13_readLine_9 rfl ?_
        refine zs_callV (M := mX13_isWord) (As := [.int (nI 3)]) (st := []) (Kc := [(mo, .inr (11, fMo e g w))]) (Kr := [((e 1), .inl (0, 740, .inl (nF bt))), ((e 15), .inl (0, 200, .inl rf)), ((e 19), .inl (2, 12, .inr (.inl rn)))]) [0] [1, 2, 3] 0 dX13_readLine_10 zl_RX13_264 kX13_isWord rfl rfl rfl rfl rfl (by decide) rfl rfl (show dd - 1 + 1 ≤ dd by omega) (Nat.zero_le _) (Nat.zero_le _) (Nat.le_of_ble_eq_true rfl) (s_mIsWord l (dd - 1) mo e g w n L t 3 (by omega) (by omega) hT hW hO) (fun r K1 hr => ?_)
        obtain ⟨rfl, rfl⟩ := hr
        refine zs_K (K' := [(mo, .inr (11, fMo e g w)), ((e 1), .inl (0, 740, .inl (nF bt))), ((e 15), .inl (0, 200, .inl rf)), ((e 19), .inl (2, 12, .inr (.inl rn)))]) [3, 0, 1, 2] rfl (by decide) ?_
        refine zs_if_ne (tgt := 22) dX13_readLine_13 (by decide) (fun c_29 => ?_) (fun c_29 => ?_)
        · have hwd := of_decide_eq_true (bI_t c_29)
          refine zs_iload_n dX13_readLine_22 rfl ?_
          refine zs_bipush (v := nI 9) dX13_readLine_23 (by decide) ?_
          refine zs_icmp_le (tgt := 34) dX13_readLine_25 (by decide) (fun c_30 => ?_) (fun c_30 => (by first | exact absurd c_30 (by decide) | exact absurd (by decide) c_30 : False).elim)
          refine zs_iload_n dX13_readLine_34 rfl ?_
          refine zs_if_ne (tgt := 45) dX13_readLine_35 (by decide) (fun c_31 => ?_) (fun c_31 => (by first | exact absurd c_31 (by decide) | exact absurd (by decide) c_31 : False).elim)
          refine zs_iload_n dX13_readLine_45 rfl ?_
          refine zs_iconst (v := nI 1) dX13_readLine_46 (by decide) ?_
          refine zs_icmp_ne (tgt := 57) dX13_readLine_47 (by decide) (fun c_32 => ?_) (fun c_32 => (by first | exact absurd c_32 (by decide) | exact absurd (by decide) c_32 : False).elim)
          refine zs_iload_n dX13_readLine_57 rfl ?_
          refine zs_iconst (v := nI 2) dX13_readLine_58 (by decide) ?_
          refine zs_icmp_ne (tgt := 69) dX13_readLine_59 (by decide) (fun c_33 => ?_) (fun c_33 => (by first | exact absurd c_33 (by decide) | exact absurd (by decide) c_33 : False).elim)
          refine zs_aload_n dX13_readLine_69 rfl rfl ?_
          refine zs_iload_n dX13_readLine_70 rfl ?_
          refine zs_callV (M := mX13_readOnce) (As := [.int (nI 3)]) (st := []) (Kc := [(mo, .inr (11, fMo e g w)), ((e 1), .inl (0, 740, .inl (nF bt))), ((e 15), .inl (0, 200, .inl rf)), ((e 19), .inl (2, 12, .inr (.inl rn)))]) (Kr := []) [0, 1, 2, 3] [] 0 dX13_readLine_71 zl_RX13_276 kX13_readOnce rfl rfl rfl rfl rfl (by decide) rfl rfl (show dd - 1 + 1 ≤ dd by omega) (Nat.zero_le _) (Nat.zero_le _) (Nat.le_of_ble_eq_true rfl) (s_mReadOnce l (dd - 1) mo e g w n L bt t tk D rf rn 3 (by omega) hn hL hbt h3 h4 hT hW hO hD hRd (hO.2.2.2.2.2.2.2.2 _ hwd) ⟨by decide, by decide⟩) (fun r K1 hr => ?_)
          rw [← pLine_w3 (b := bt) (n := n) (L := L) (tk := tk) (D := D) hwd] at hr
          rcases hr with ⟨hq, rfl, g1, w1, rf1, rn1, fr1, hT1, hW1, hRd1, rfl⟩ | ⟨hq, rfl, g1, w1, rf1, rn1, fr1, h10, h11, rfl⟩
          · refine zs_K (K' := [(mo, .inr (11, fMo e g1 w1)), ((e 1), .inl (0, 740, .inl (nF bt))), ((e 15), .inl (0, 200, .inl rf1)), ((e 19), .inl (2, 12, .inr (.inl rn1)))]) [0, 1, 2, 3] rfl (by decide) ?_
            refine zs_istore_n (lv' := [(2, .int (nI 1)), (1, .int (nI 3)), (0, .ref mo)]) dX13_readLine_74 (Nat.le_of_ble_eq_true rfl) rfl ?_
            refine zs_iload_n dX13_readLine_75 rfl ?_
            refine zs_if_eq (tgt := 90) dX13_readLine_76 (by decide) (fun c_34 => (by first | exact absurd c_34 (by decide) | exact absurd (by decide) c_34 : False).elim) (fun c_34 => ?_)
            refine zs_aload_n dX13_readLine_79 rfl rfl ?_
            have hI := pLine_I (L := L) (tk := tk) hbt hn hO hD
            refine zs_callV (M := mX13_readEnd) (As := []) (st := []) (Kc := [(mo, .inr (11, fMo e g1 w1)), ((e 1), .inl (0, 740, .inl (nF bt)))]) (Kr := [((e 15), .inl (0, 200, .inl rf1)), ((e 19), .inl (2, 12, .inr (.inl rn1)))]) [0, 1] [2, 3] 0 dX13_readLine_80 zl_RX13_279 kX13_readEnd rfl rfl rfl rfl rfl (by decide) rfl rfl (show dd - 1 + 1 ≤ dd by omega) (Nat.zero_le _) (Nat.zero_le _) (Nat.le_of_ble_eq_true rfl) (s_mReadEnd l (dd - 1) mo e g1 w1 n L bt (pLine bt n L t tk D).2.1 (by omega) hn hL hbt ((fr1 3 (by decide)).trans h3) ((fr1 4 (by decide)).trans h4) hT1 hW1 hI.1) (fun r K1 hr => ?_)
            rcases hr with ⟨h59, rfl, g2, w2, hfr2, hT2, rfl⟩ | ⟨h59, rfl, rfl⟩
            · refine zs_K (K' := [(mo, .inr (11, fMo e g2 w2)), ((e 1), .inl (0, 740, .inl (nF bt))), ((e 15), .inl (0, 200, .inl rf1)), ((e 19), .inl (2, 12, .inr (.inl rn1)))]) [2, 3, 0, 1] rfl (by decide) ?_
              refine zs_if_eq (tgt := 90) dX13_readLine_83 (by decide) (fun c_35 => (by first | exact absurd c_35 (by decide) | exact absurd (by decide) c_35 : False).elim) (fun c_35 => ?_)
              refine zs_iconst (v := nI 1) dX13_readLine_86 (by decide) ?_
              refine zs_goto (tgt := 91) dX13_readLine_87 (by decide) ?_
              have er : (mLn bt n L t tk D) = (0, nxt bt n L (pLine bt n L t tk D).2.1, (pLine bt n L t tk D).2.2) := by rw [mLn, if_pos hq, if_pos h59]
              exact zs_zret dX13_readLine_91 rfl (Or.inr rfl) (Or.inl ⟨by rw [er], rfl, g2, w2, rf1, rn1, mFr_t fr1 hfr2 (by decide) (by decide), by rw [er]; exact hT2, by rw [er]; exact nxt_W, by rw [er]; exact ⟨hRd1.1, hRd1.2.1, (hfr2 23 (by decide)).trans hRd1.2.2⟩, rfl⟩)
            · refine zs_K (K' := [(mo, .inr (11, fMo e (mFa g1 1 (pLine bt n L t tk D).2.1) w1)), ((e 1), .inl (0, 740, .inl (nF bt))), ((e 15), .inl (0, 200, .inl rf1)), ((e 19), .inl (2, 12, .inr (.inl rn1)))]) [2, 3, 0, 1] rfl (by decide) ?_
              refine zs_if_eq (tgt := 90) dX13_readLine_83 (by decide) (fun c_36 => ?_) (fun c_36 => (by first | exact absurd c_36 (by decide) | exact absurd (by decide) c_36 : False).elim)
              refine zs_iconst (v := nI 0) dX13_readLine_90 (by decide) ?_
              have er : (mLn bt n L t tk D) = (1, (pLine bt n L t tk D).2) := by rw [mLn, if_pos hq, if_neg (fun h => by rw [h59] at h; exact absurd h (by decide))]
              exact zs_zret dX13_readLine_91 rfl (Or.inl rfl) (Or.inr ⟨by rw [er]; exact (show ¬ 1 = 0 by decide), rfl, mFa g1 1 (pLine bt n L t tk D).2.1, w1, rf1, rn1, mFr_fa fr1 (by decide) (by decide), by rw [er]; rfl, by rw [er]; rfl, rfl⟩)
          · refine zs_K (K' := [(mo, .inr (11, fMo e g1 w1)), ((e 1), .inl (0, 740, .inl (nF bt))), ((e 15), .inl (0, 200, .inl rf1)), ((e 19), .inl (2, 12, .inr (.inl rn1)))]) [0, 1, 2, 3] rfl (by decide) ?_
            refine zs_istore_n (lv' := [(2, .int (nI 0)), (1, .int (nI 3)), (0, .ref mo)]) dX13_readLine_74 (Nat.le_of_ble_eq_true rfl) rfl ?_
            refine zs_iload_n dX13_readLine_75 rfl ?_
            refine zs_if_eq (tgt := 90) dX13_readLine_76 (by decide) (fun c_37 => ?_) (fun c_37 => (by first | exact absurd c_37 (by decide) | exact absurd (by decide) c_37 : False).elim)
            refine zs_iconst (v := nI 0) dX13_readLine_90 (by decide) ?_
            have er : (mLn bt n L t tk D) = (pLine bt n L t tk D) := by rw [mLn, if_neg hq]
            exact zs_zret dX13_readLine_91 rfl (Or.inl rfl) (Or.inr ⟨by rw [er]; exact hq, rfl, g1, w1, rf1, rn1, fr1, by rw [er]; exact h10, by rw [er]; exact h11, rfl⟩)
        · refine zs_iinc (v := (nI 4)) (lv' := [(1, .int (nI 4)), (0, .ref mo)]) dX13_readLine_16 rfl (nI_add _ 1) (Nat.le_of_ble_eq_true rfl) rfl ?_
          refine zs_goto (tgt := 2) dX13_readLine_19 (by decide) ?_
          refine zs_iload_n dX13_readLine_2 rfl ?_
          refine zs_bipush (v := nI 9) dX13_readLine_3 (by decide) ?_
          refine zs_icmp_gt (tgt := 22) dX13_readLine_5 (by decide) (fun c_38 => (by first | exact absurd c_38 (by decide) | exact absurd (by decide) c_38 : False).elim) (fun c_38 => ?_)
          refine zs_aload_n dX13_readLine_8 rfl rfl ?_
          refine zs_iload_n dX13_readLine_9 rfl ?_
          refine zs_callV (M := mX13_isWord) (As := [.int (nI 4)]) (st := []) (Kc := [(mo, .inr (11, fMo e g w))]) (Kr := [((e 1), .inl (0, 740, .inl (nF bt))), ((e 15), .inl (0, 200, .inl rf)), ((e 19), .inl (2, 12, .inr (.inl rn)))]) [0] [1, 2, 3] 0 dX13_readLine_10 zl_RX13_264 kX13_isWord rfl rfl rfl rfl rfl (by decide) rfl rfl (show dd - 1 + 1 ≤ dd by omega) (Nat.zero_le _) (Nat.zero_le _) (Nat.le_of_ble_eq_true rfl) (s_mIsWord l (dd - 1) mo e g w n L t 4 (by omega) (by omega) hT hW hO) (fun r K1 hr => ?_)
          obtain ⟨rfl, rfl⟩ := hr
          refine zs_K (K' := [(mo, .inr (11, fMo e g w)), ((e 1), .inl (0, 740, .inl (nF bt))), ((e 15), .inl (0, 200, .inl rf)), ((e 19), .inl (2, 12, .inr (.inl rn)))]) [3, 0, 1, 2] rfl (by decide) ?_
          refine zs_if_ne (tgt := 22) dX13_readLine_13 (by decide) (fun c_39 => ?_) (fun c_39 => ?_)
          · have hwd := of_decide_eq_true (bI_t c_39)
            refine zs_iload_n dX13_readLine_22 rfl ?_
            refine zs_bipush (v := nI 9) dX13_readLine_23 (by decide) ?_
            refine zs_icmp_le (tgt := 34) dX13_readLine_25 (by decide) (fun c_40 => ?_) (fun c_40 => (by first | exact absurd c_40 (by decide) | exact absurd (by decide) c_40 : False).elim)
            refine zs_iload_n dX13_readLine_34 rfl ?_
            refine zs_if_ne (tgt := 45) dX13_readLine_35 (by decide) (fun c_41 => ?_) (fun c_41 => (by first | exact absurd c_41 (by decide) | exact absurd (by decide) c_41 : False).elim)
            refine zs_iload_n dX13_readLine_45 rfl ?_
            refine zs_iconst (v := nI 1) dX13_readLine_46 (by decide) ?_
            refine zs_icmp_ne (tgt := 57) dX13_readLine_47 (by decide) (fun c_42 => ?_) (fun c_42 => (by first | exact absurd c_42 (by decide) | exact absurd (by decide) c_42 : False).elim)
            refine zs_iload_n dX13_readLine_57 rfl ?_
            refine zs_iconst (v := nI 2) dX13_readLine_58 (by decide) ?_
            refine zs_icmp_ne (tgt := 69) dX13_readLine_59 (by decide) (fun c_43 => ?_) (fun c_43 => (by first | exact absurd c_43 (by decide) | exact absurd (by decide) c_43 : False).elim)
            refine zs_aload_n dX13_readLine_69 rfl rfl ?_
            refine zs_iload_n dX13_readLine_70 rfl ?_
            refine zs_callV (M := mX13_readOnce) (As := [.int (nI 4)]) (st := []) (Kc := [(mo, .inr (11, fMo e g w)), ((e 1), .inl (0, 740, .inl (nF bt))), ((e 15), .inl (0, 200, .inl rf)), ((e 19), .inl (2, 12, .inr (.inl rn)))]) (Kr := []) [0, 1, 2, 3] [] 0 dX13_readLine_71 zl_RX13_276 kX13_readOnce rfl rfl rfl rfl rfl (by decide) rfl rfl (show dd - 1 + 1 ≤ dd by omega) (Nat.zero_le _) (Nat.zero_le _) (Nat.le_of_ble_eq_true rfl) (s_mReadOnce l (dd - 1) mo e g w n L bt t tk D rf rn 4 (by omega) hn hL hbt h3 h4 hT hW hO hD hRd (hO.2.2.2.2.2.2.2.2 _ hwd) ⟨by decide, by decide⟩) (fun r K1 hr => ?_)
            rw [← pLine_w4 (b := bt) (n := n) (L := L) (tk := tk) (D := D) hwd] at hr
            rcases hr with ⟨hq, rfl, g1, w1, rf1, rn1, fr1, hT1, hW1, hRd1, rfl⟩ | ⟨hq, rfl, g1, w1, rf1, rn1, fr1, h10, h11, rfl⟩
            · refine zs_K (K' := [(mo, .inr (11, fMo e g1 w1)), ((e 1), .inl (0, 740, .inl (nF bt))), ((e 15), .inl (0, 200, .inl rf1)), ((e 19), .inl (2, 12, .inr (.inl rn1)))]) [0, 1, 2, 3] rfl (by decide) ?_
              refine zs_istore_n (lv' := [(2, .int (nI 1)), (1, .int (nI 4)), (0, .ref mo)]) dX13_readLine_74 (Nat.le_of_ble_eq_true rfl) rfl ?_
              refine zs_iload_n dX13_readLine_75 rfl ?_
              refine zs_if_eq (tgt := 90) dX13_readLine_76 (by decide) (fun c_44 => (by first | exact absurd c_44 (by decide) | exact absurd (by decide) c_44 : False).elim) (fun c_44 => ?_)
              refine zs_aload_n dX13_readLine_79 rfl rfl ?_
              have hI := pLine_I (L := L) (tk := tk) hbt hn hO hD
              refine zs_callV (M := mX13_readEnd) (As := []) (st := []) (Kc := [(mo, .inr (11, fMo e g1 w1)), ((e 1), .inl (0, 740, .inl (nF bt)))]) (Kr := [((e 15), .inl (0, 200, .inl rf1)), ((e 19), .inl (2, 12, .inr (.inl rn1)))]) [0, 1] [2, 3] 0 dX13_readLine_80 zl_RX13_279 kX13_readEnd rfl rfl rfl rfl rfl (by decide) rfl rfl (show dd - 1 + 1 ≤ dd by omega) (Nat.zero_le _) (Nat.zero_le _) (Nat.le_of_ble_eq_true rfl) (s_mReadEnd l (dd - 1) mo e g1 w1 n L bt (pLine bt n L t tk D).2.1 (by omega) hn hL hbt ((fr1 3 (by decide)).trans h3) ((fr1 4 (by decide)).trans h4) hT1 hW1 hI.1) (fun r K1 hr => ?_)
              rcases hr with ⟨h59, rfl, g2, w2, hfr2, hT2, rfl⟩ | ⟨h59, rfl, rfl⟩
              · refine zs_K (K' := [(mo, .inr (11, fMo e g2 w2)), ((e 1), .inl (0, 740, .inl (nF bt))), ((e 15), .inl (0, 200, .inl rf1)), ((e 19), .inl (2, 12, .inr (.inl rn1)))]) [2, 3, 0, 1] rfl (by decide) ?_
                refine zs_if_eq (tgt := 90) dX13_readLine_83 (by decide) (fun c_45 => (by first | exact absurd c_45 (by decide) | exact absurd (by decide) c_45 : False).elim) (fun c_45 => ?_)
                refine zs_iconst (v := nI 1) dX13_readLine_86 (by decide) ?_
                refine zs_goto (tgt := 91) dX13_readLine_87 (by decide) ?_
                have er : (mLn bt n L t tk D) = (0, nxt bt n L (pLine bt n L t tk D).2.1, (pLine bt n L t tk D).2.2) := by rw [mLn, if_pos hq, if_pos h59]
                exact zs_zret dX13_readLine_91 rfl (Or.inr rfl) (Or.inl ⟨by rw [er], rfl, g2, w2, rf1, rn1, mFr_t fr1 hfr2 (by decide) (by decide), by rw [er]; exact hT2, by rw [er]; exact nxt_W, by rw [er]; exact ⟨hRd1.1, hRd1.2.1, (hfr2 23 (by decide)).trans hRd1.2.2⟩, rfl⟩)
              · refine zs_K (K' := [(mo, .inr (11, fMo e (mFa g1 1 (pLine bt n L t tk D).2.1) w1)), ((e 1), .inl (0, 740, .inl (nF bt))), ((e 15), .inl (0, 200, .inl rf1)), ((e 19), .inl (2, 12, .inr (.inl rn1)))]) [2, 3, 0, 1] rfl (by decide) ?_
                refine zs_if_eq (tgt := 90) dX13_readLine_83 (by decide) (fun c_46 => ?_) (fun c_46 => (by first | exact absurd c_46 (by decide) | exact absurd (by decide) c_46 : False).elim)
                refine zs_iconst (v := nI 0) dX13_readLine_90 (by decide) ?_
                have er : (mLn bt n L t tk D) = (1, (pLine bt n L t tk D).2) := by rw [mLn, if_pos hq, if_neg (fun h => by rw [h59] at h; exact absurd h (by decide))]
                exact zs_zret dX13_readLine_91 rfl (Or.inl rfl) (Or.inr ⟨by rw [er]; exact (show ¬ 1 = 0 by decide), rfl, mFa g1 1 (pLine bt n L t tk D).2.1, w1, rf1, rn1, mFr_fa fr1 (by decide) (by decide), by rw [er]; rfl, by rw [er]; rfl, rfl⟩)
            · refine zs_K (K' := [(mo, .inr (11, fMo e g1 w1)), ((e 1), .inl (0, 740, .inl (nF bt))), ((e 15), .inl (0, 200, .inl rf1)), ((e 19), .inl (2, 12, .inr (.inl rn1)))]) [0, 1, 2, 3] rfl (by decide) ?_
              refine zs_istore_n (lv' := [(2, .int (nI 0)), (1, .int (nI 4)), (0, .ref mo)]) dX13_readLine_74 (Nat.le_of_ble_eq_true rfl) rfl ?_
              refine zs_iload_n dX13_readLine_75 rfl ?_
              refine zs_if_eq (tgt := 90) dX13_readLine_76 (by decide) (fun c_47 => ?_) (fun c_47 => (by first | exact absurd c_47 (by decide) | exact absurd (by decide) c_47 : False).elim)
              refine zs_iconst (v := nI 0) dX13_readLine_90 (by decide) ?_
              have er : (mLn bt n L t tk D) = (pLine bt n L t tk D) := by rw [mLn, if_neg hq]
              exact zs_zret dX13_readLine_91 rfl (Or.inl rfl) (Or.inr ⟨by rw [er]; exact hq, rfl, g1, w1, rf1, rn1, fr1, by rw [er]; exact h10, by rw [er]; exact h11, rfl⟩)
          · refine zs_iinc (v := (nI 5)) (lv' := [(1, .int (nI 5)), (0, .ref mo)]) dX13_readLine_16 rfl (nI_add _ 1) (Nat.le_of_ble_eq_true rfl) rfl ?_
            refine zs_goto (tgt := 2) dX13_readLine_19 (by decide) ?_
            refine zs_iload_n dX13_readLine_2 rfl ?_
            refine zs_bipush (v := nI 9) dX13_readLine_3 (by decide) ?_
            refine zs_icmp_gt (tgt := 22) dX13_readLine_5 (by decide) (fun c_48 => (by first | exact absurd c_48 (by decide) | exact absurd (by decide) c_48 : False).elim) (fun c_48 => ?_)
            refine zs_aload_n dX13_readLine_8 rfl rfl ?_
            refine zs_iload_n dX13_readLine_9 rfl ?_
            refine zs_callV (M := mX13_isWord) (As := [.int (nI 5)]) (st := []) (Kc := [(mo, .inr (11, fMo e g w))]) (Kr := [((e 1), .inl (0, 740, .inl (nF bt))), ((e 15), .inl (0, 200, .inl rf)), ((e 19), .inl (2, 12, .inr (.inl rn)))]) [0] [1, 2, 3] 0 dX13_readLine_10 zl_RX13_264 kX13_isWord rfl rfl rfl rfl rfl (by decide) rfl rfl (show dd - 1 + 1 ≤ dd by omega) (Nat.zero_le _) (Nat.zero_le _) (Nat.le_of_ble_eq_true rfl) (s_mIsWord l (dd - 1) mo e g w n L t 5 (by omega) (by omega) hT hW hO) (fun r K1 hr => ?_)
            obtain ⟨rfl, rfl⟩ := hr
            refine zs_K (K' := [(mo, .inr (11, fMo e g w)), ((e 1), .inl (0, 740, .inl (nF bt))), ((e 15), .inl (0, 200, .inl rf)), ((e 19), .inl (2, 12, .inr (.inl rn)))]) [3, 0, 1, 2] rfl (by decide) ?_
            refine zs_if_ne (tgt := 22) dX13_readLine_13 (by decide) (fun c_49 => ?_) (fun c_49 => ?_)
            · have hwd := of_decide_eq_true (bI_t c_49)
              refine zs_iload_n dX13_readLine_22 rfl ?_
              refine zs_bipush (v := nI 9) dX13_readLine_23 (by decide) ?_
              refine zs_icmp_le (tgt := 34) dX13_readLine_25 (by decide) (fun c_50 => ?_) (fun c_50 => (by first | exact absurd c_50 (by decide) | exact absurd (by decide) c_50 : False).elim)
              refine zs_iload_n dX13_readLine_34 rfl ?_
              refine zs_if_ne (tgt := 45) dX13_readLine_35 (by decide) (fun c_51 => ?_) (fun c_51 => (by first | exact absurd c_51 (by decide) | exact absurd (by decide) c_51 : False).elim)
              refine zs_iload_n dX13_readLine_45 rfl ?_
              refine zs_iconst (v := nI 1) dX13_readLine_46 (by decide) ?_
              refine zs_icmp_ne (tgt := 57) dX13_readLine_47 (by decide) (fun c_52 => ?_) (fun c_52 => (by first | exact absurd c_52 (by decide) | exact absurd (by decide) c_52 : False).elim)
              refine zs_iload_n dX13_readLine_57 rfl ?_
              refine zs_iconst (v := nI 2) dX13_readLine_58 (by decide) ?_
              refine zs_icmp_ne (tgt := 69) dX13_readLine_59 (by decide) (fun c_53 => ?_) (fun c_53 => (by first | exact absurd c_53 (by decide) | exact absurd (by decide) c_53 : False).elim)
              refine zs_aload_n dX13_readLine_69 rfl rfl ?_
              refine zs_iload_n dX13_readLine_70 rfl ?_
              refine zs_callV (M := mX13_readOnce) (As := [.int (nI 5)]) (st := []) (Kc := [(mo, .inr (11, fMo e g w)), ((e 1), .inl (0, 740, .inl (nF bt))), ((e 15), .inl (0, 200, .inl rf)), ((e 19), .inl (2, 12, .inr (.inl rn)))]) (Kr := []) [0, 1, 2, 3] [] 0 dX13_readLine_71 zl_RX13_276 kX13_readOnce rfl rfl rfl rfl rfl (by decide) rfl rfl (show dd - 1 + 1 ≤ dd by omega) (Nat.zero_le _) (Nat.zero_le _) (Nat.le_of_ble_eq_true rfl) (s_mReadOnce l (dd - 1) mo e g w n L bt t tk D rf rn 5 (by omega) hn hL hbt h3 h4 hT hW hO hD hRd (hO.2.2.2.2.2.2.2.2 _ hwd) ⟨by decide, by decide⟩) (fun r K1 hr => ?_)
              rw [← pLine_w5 (b := bt) (n := n) (L := L) (tk := tk) (D := D) hwd] at hr
              rcases hr with ⟨hq, rfl, g1, w1, rf1, rn1, fr1, hT1, hW1, hRd1, rfl⟩ | ⟨hq, rfl, g1, w1, rf1, rn1, fr1, h10, h11, rfl⟩
              · refine zs_K (K' := [(mo, .inr (11, fMo e g1 w1)), ((e 1), .inl (0, 740, .inl (nF bt))), ((e 15), .inl (0, 200, .inl rf1)), ((e 19), .inl (2, 12, .inr (.inl rn1)))]) [0, 1, 2, 3] rfl (by decide) ?_
                refine zs_istore_n (lv' := [(2, .int (nI 1)), (1, .int (nI 5)), (0, .ref mo)]) dX13_readLine_74 (Nat.le_of_ble_eq_true rfl) rfl ?_
                refine zs_iload_n dX13_readLine_75 rfl ?_
                refine zs_if_eq (tgt := 90) dX13_readLine_76 (by decide) (fun c_54 => (by first | exact absurd c_54 (by decide) | exact absurd (by decide) c_54 : False).elim) (fun c_54 => ?_)
                refine zs_aload_n dX13_readLine_79 rfl rfl ?_
                have hI := pLine_I (L := L) (tk := tk) hbt hn hO hD
                refine zs_callV (M := mX13_readEnd) (As := []) (st := []) (Kc := [(mo, .inr (11, fMo e g1 w1)), ((e 1), .inl (0, 740, .inl (nF bt)))]) (Kr := [((e 15), .inl (0, 200, .inl rf1)), ((e 19), .inl (2, 12, .inr (.inl rn1)))]) [0, 1] [2, 3] 0 dX13_readLine_80 zl_RX13_279 kX13_readEnd rfl rfl rfl rfl rfl (by decide) rfl rfl (show dd - 1 + 1 ≤ dd by omega) (Nat.zero_le _) (Nat.zero_le _) (Nat.le_of_ble_eq_true rfl) (s_mReadEnd l (dd - 1) mo e g1 w1 n L bt (pLine bt n L t tk D).2.1 (by omega) hn hL hbt ((fr1 3 (by decide)).trans h3) ((fr1 4 (by decide)).trans h4) hT1 hW1 hI.1) (fun r K1 hr => ?_)
                rcases hr with ⟨h59, rfl, g2, w2, hfr2, hT2, rfl⟩ | ⟨h59, rfl, rfl⟩
                · refine zs_K (K' := [(mo, .inr (11, fMo e g2 w2)), ((e 1), .inl (0, 740, .inl (nF bt))), ((e 15), .inl (0, 200, .inl rf1)), ((e 19), .inl (2, 12, .inr (.inl rn1)))]) [2, 3, 0, 1] rfl (by decide) ?_
                  refine zs_if_eq (tgt := 90) dX13_readLine_83 (by decide) (fun c_55 => (by first | exact absurd c_55 (by decide) | exact absurd (by decide) c_55 : False).elim) (fun c_55 => ?_)
                  refine zs_iconst (v := nI 1) dX13_readLine_86 (by decide) ?_
                  refine zs_goto (tgt := 91) dX13_readLine_87 (by decide) ?_
                  have er : (mLn bt n L t tk D) = (0, nxt bt n L (pLine bt n L t tk D).2.1, (pLine bt n L t tk D).2.2) := by rw [mLn, if_pos hq, if_pos h59]
                  exact zs_zret dX13_readLine_91 rfl (Or.inr rfl) (Or.inl ⟨by rw [er], rfl, g2, w2, rf1, rn1, mFr_t fr1 hfr2 (by decide) (by decide), by rw [er]; exact hT2, by rw [er]; exact nxt_W, by rw [er]; exact ⟨hRd1.1, hRd1.2.1, (hfr2 23 (by decide)).trans hRd1.2.2⟩, rfl⟩)
                · refine zs_K (K' := [(mo, .inr (11, fMo e (mFa g1 1 (pLine bt n L t tk D).2.1) w1)), ((e 1), .inl (0, 740, .inl (nF bt))), ((e 15), .inl (0, 200, .inl rf1)), ((e 19), .inl (2, 12, .inr (.inl rn1)))]) [2, 3, 0, 1] rfl (by decide) ?_
                  refine zs_if_eq (tgt := 90) dX13_readLine_83 (by decide) (fun c_56 => ?_) (fun c_56 => (by first | exact absurd c_56 (by decide) | exact absurd (by decide) c_56 : False).elim)
                  refine zs_iconst (v := nI 0) dX13_readLine_90 (by decide) ?_
                  have er : (mLn bt n L t tk D) = (1, (pLine bt n L t tk D).2) := by rw [mLn, if_pos hq, if_neg (fun h => by rw [h59] at h; exact absurd h (by decide))]
                  exact zs_zret dX13_readLine_91 rfl (Or.inl rfl) (Or.inr ⟨by rw [er]; exact (show ¬ 1 = 0 by decide), rfl, mFa g1 1 (pLine bt n L t tk D).2.1, w1, rf1, rn1, mFr_fa fr1 (by decide) (by decide), by rw [er]; rfl, by rw [er]; rfl, rfl⟩)
              · refine zs_K (K' := [(mo, .inr (11, fMo e g1 w1)), ((e 1), .inl (0, 740, .inl (nF bt))), ((e 15), .inl (0, 200, .inl rf1)), ((e 19), .inl (2, 12, .inr (.inl rn1)))]) [0, 1, 2, 3] rfl (by decide) ?_
                refine zs_istore_n (lv' := [(2, .int (nI 0)), (1, .int (nI 5)), (0, .ref mo)]) dX13_readLine_74 (Nat.le_of_ble_eq_true rfl) rfl ?_
                refine zs_iload_n dX13_readLine_75 rfl ?_
                refine zs_if_eq (tgt := 90) dX13_readLine_76 (by decide) (fun c_57 => ?_) (fun c_57 => (by first | exact absurd c_57 (by decide) | exact absurd (by decide) c_57 : False).elim)
                refine zs_iconst (v := nI 0) dX13_readLine_90 (by decide) ?_
                have er : (mLn bt n L t tk D) = (pLine bt n L t tk D) := by rw [mLn, if_neg hq]
                exact zs_zret dX13_readLine_91 rfl (Or.inl rfl) (Or.inr ⟨by rw [er]; exact hq, rfl, g1, w1, rf1, rn1, fr1, by rw [er]; exact h10, by rw [er]; exact h11, rfl⟩)
            · refine zs_iinc (v := (nI 6)) (lv' := [(1, .int (nI 6)), (0, .ref mo)]) dX13_readLine_16 rfl (nI_add _ 1) (Nat.le_of_ble_eq_true rfl) rfl ?_
              refine zs_goto (tgt := 2) dX13_readLine_19 (by decide) ?_
              refine zs_iload_n dX13_readLine_2 rfl ?_
              refine zs_bipush (v := nI 9) dX13_readLine_3 (by decide) ?_
              refine zs_icmp_gt (tgt := 22) dX13_readLine_5 (by decide) (fun c_58 => (by first | exact absurd c_58 (by decide) | exact absurd (by decide) c_58 : False).elim) (fun c_58 => ?_)
              refine zs_aload_n dX13_readLine_8 rfl rfl ?_
              refine zs_iload_n dX13_readLine_9 rfl ?_
              refine zs_callV (M := mX13_isWord) (As := [.int (nI 6)]) (st := []) (Kc := [(mo, .inr (11, fMo e g w))]) (Kr := [((e 1), .inl (0, 740, .inl (nF bt))), ((e 15), .inl (0, 200, .inl rf)), ((e 19), .inl (2, 12, .inr (.inl rn)))]) [0] [1, 2, 3] 0 dX13_readLine_10 zl_RX13_264 kX13_isWord rfl rfl rfl rfl rfl (by decide) rfl rfl (show dd - 1 + 1 ≤ dd by omega) (Nat.zero_le _) (Nat.zero_le _) (Nat.le_of_ble_eq_true rfl) (s_mIsWord l (dd - 1) mo e g w n L t 6 (by omega) (by omega) hT hW hO) (fun r K1 hr => ?_)
              obtain ⟨rfl, rfl⟩ := hr
              refine zs_K (K' := [(mo, .inr (11, fMo e g w)), ((e 1), .inl (0, 740, .inl (nF bt))), ((e 15), .inl (0, 200, .inl rf)), ((e 19), .inl (2, 12, .inr (.inl rn)))]) [3, 0, 1, 2] rfl (by decide) ?_
              refine zs_if_ne (tgt := 22) dX13_readLine_13 (by decide) (fun c_59 => ?_) (fun c_59 => ?_)
              · have hwd := of_decide_eq_true (bI_t c_59)
                refine zs_iload_n dX13_readLine_22 rfl ?_
                refine zs_bipush (v := nI 9) dX13_readLine_23 (by decide) ?_
                refine zs_icmp_le (tgt := 34) dX13_readLine_25 (by decide) (fun c_60 => ?_) (fun c_60 => (by first | exact absurd c_60 (by decide) | exact absurd (by decide) c_60 : False).elim)
                refine zs_iload_n dX13_readLine_34 rfl ?_
                refine zs_if_ne (tgt := 45) dX13_readLine_35 (by decide) (fun c_61 => ?_) (fun c_61 => (by first | exact absurd c_61 (by decide) | exact absurd (by decide) c_61 : False).elim)
                refine zs_iload_n dX13_readLine_45 rfl ?_
                refine zs_iconst (v := nI 1) dX13_readLine_46 (by decide) ?_
                refine zs_icmp_ne (tgt := 57) dX13_readLine_47 (by decide) (fun c_62 => ?_) (fun c_62 => (by first | exact absurd c_62 (by decide) | exact absurd (by decide) c_62 : False).elim)
                refine zs_iload_n dX13_readLine_57 rfl ?_
                refine zs_iconst (v := nI 2) dX13_readLine_58 (by decide) ?_
                refine zs_icmp_ne (tgt := 69) dX13_readLine_59 (by decide) (fun c_63 => ?_) (fun c_63 => (by first | exact absurd c_63 (by decide) | exact absurd (by decide) c_63 : False).elim)
                refine zs_aload_n dX13_readLine_69 rfl rfl ?_
                refine zs_iload_n dX13_readLine_70 rfl ?_
                refine zs_callV (M := mX13_readOnce) (As := [.int (nI 6)]) (st := []) (Kc := [(mo, .inr (11, fMo e g w)), ((e 1), .inl (0, 740, .inl (nF bt))), ((e 15), .inl (0, 200, .inl rf)), ((e 19), .inl (2, 12, .inr (.inl rn)))]) (Kr := []) [0, 1, 2, 3] [] 0 dX13_readLine_71 zl_RX13_276 kX13_readOnce rfl rfl rfl rfl rfl (by decide) rfl rfl (show dd - 1 + 1 ≤ dd by omega) (Nat.zero_le _) (Nat.zero_le _) (Nat.le_of_ble_eq_true rfl) (s_mReadOnce l (dd - 1) mo e g w n L bt t tk D rf rn 6 (by omega) hn hL hbt h3 h4 hT hW hO hD hRd (hO.2.2.2.2.2.2.2.2 _ hwd) ⟨by decide, by decide⟩) (fun r K1 hr => ?_)
                rw [← pLine_w6 (b := bt) (n := n) (L := L) (tk := tk) (D := D) hwd] at hr
                rcases hr with ⟨hq, rfl, g1, w1, rf1, rn1, fr1, hT1, hW1, hRd1, rfl⟩ | ⟨hq, rfl, g1, w1, rf1, rn1, fr1, h10, h11, rfl⟩
                · refine zs_K (K' := [(mo, .inr (11, fMo e g1 w1)), ((e 1), .inl (0, 740, .inl (nF bt))), ((e 15), .inl (0, 200, .inl rf1)), ((e 19), .inl (2, 12, .inr (.inl rn1)))]) [0, 1, 2, 3] rfl (by decide) ?_
                  refine zs_istore_n (lv' := [(2, .int (nI 1)), (1, .int (nI 6)), (0, .ref mo)]) dX13_readLine_74 (Nat.le_of_ble_eq_true rfl) rfl ?_
                  refine zs_iload_n dX13_readLine_75 rfl ?_
                  refine zs_if_eq (tgt := 90) dX13_readLine_76 (by decide) (fun c_64 => (by first | exact absurd c_64 (by decide) | exact absurd (by decide) c_64 : False).elim) (fun c_64 => ?_)
                  refine zs_aload_n dX13_readLine_79 rfl rfl ?_
                  have hI := pLine_I (L := L) (tk := tk) hbt hn hO hD
                  refine zs_callV (M := mX13_readEnd) (As := []) (st := []) (Kc := [(mo, .inr (11, fMo e g1 w1)), ((e 1), .inl (0, 740, .inl (nF bt)))]) (Kr := [((e 15), .inl (0, 200, .inl rf1)), ((e 19), .inl (2, 12, .inr (.inl rn1)))]) [0, 1] [2, 3] 0 dX13_readLine_80 zl_RX13_279 kX13_readEnd rfl rfl rfl rfl rfl (by decide) rfl rfl (show dd - 1 + 1 ≤ dd by omega) (Nat.zero_le _) (Nat.zero_le _) (Nat.le_of_ble_eq_true rfl) (s_mReadEnd l (dd - 1) mo e g1 w1 n L bt (pLine bt n L t tk D).2.1 (by omega) hn hL hbt ((fr1 3 (by decide)).trans h3) ((fr1 4 (by decide)).trans h4) hT1 hW1 hI.1) (fun r K1 hr => ?_)
                  rcases hr with ⟨h59, rfl, g2, w2, hfr2, hT2, rfl⟩ | ⟨h59, rfl, rfl⟩
                  · refine zs_K (K' := [(mo, .inr (11, fMo e g2 w2)), ((e 1), .inl (0, 740, .inl (nF bt))), ((e 15), .inl (0, 200, .inl rf1)), ((e 19), .inl (2, 12, .inr (.inl rn1)))]) [2, 3, 0, 1] rfl (by decide) ?_
                    refine zs_if_eq (tgt := 90) dX13_readLine_83 (by decide) (fun c_65 => (by first | exact absurd c_65 (by decide) | exact absurd (by decide) c_65 : False).elim) (fun c_65 => ?_)
                    refine zs_iconst (v := nI 1) dX13_readLine_86 (by decide) ?_
                    refine zs_goto (tgt := 91) dX13_readLine_87 (by decide) ?_
                    have er : (mLn bt n L t tk D) = (0, nxt bt n L (pLine bt n L t tk D).2.1, (pLine bt n L t tk D).2.2) := by rw [mLn, if_pos hq, if_pos h59]
                    exact zs_zret dX13_readLine_91 rfl (Or.inr rfl) (Or.inl ⟨by rw [er], rfl, g2, w2, rf1, rn1, mFr_t fr1 hfr2 (by decide) (by decide), by rw [er]; exact hT2, by rw [er]; exact nxt_W, by rw [er]; exact ⟨hRd1.1, hRd1.2.1, (hfr2 23 (by decide)).trans hRd1.2.2⟩, rfl⟩)
                  · refine zs_K (K' := [(mo, .inr (11, fMo e (mFa g1 1 (pLine bt n L t tk D).2.1) w1)), ((e 1), .inl (0, 740, .inl (nF bt))), ((e 15), .inl (0, 200, .inl rf1)), ((e 19), .inl (2, 12, .inr (.inl rn1)))]) [2, 3, 0, 1] rfl (by decide) ?_
                    refine zs_if_eq (tgt := 90) dX13_readLine_83 (by decide) (fun c_66 => ?_) (fun c_66 => (by first | exact absurd c_66 (by decide) | exact absurd (by decide) c_66 : False).elim)
                    refine zs_iconst (v := nI 0) dX13_readLine_90 (by decide) ?_
                    have er : (mLn bt n L t tk D) = (1, (pLine bt n L t tk D).2) := by rw [mLn, if_pos hq, if_neg (fun h => by rw [h59] at h; exact absurd h (by decide))]
                    exact zs_zret dX13_readLine_91 rfl (Or.inl rfl) (Or.inr ⟨by rw [er]; exact (show ¬ 1 = 0 by decide), rfl, mFa g1 1 (pLine bt n L t tk D).2.1, w1, rf1, rn1, mFr_fa fr1 (by decide) (by decide), by rw [er]; rfl, by rw [er]; rfl, rfl⟩)
                · refine zs_K (K' := [(mo, .inr (11, fMo e g1 w1)), ((e 1), .inl (0, 740, .inl (nF bt))), ((e 15), .inl (0, 200, .inl rf1)), ((e 19), .inl (2, 12, .inr (.inl rn1)))]) [0, 1, 2, 3] rfl (by decide) ?_
                  refine zs_istore_n (lv' := [(2, .int (nI 0)), (1, .int (nI 6)), (0, .ref mo)]) dX13_readLine_74 (Nat.le_of_ble_eq_true rfl) rfl ?_
                  refine zs_iload_n dX13_readLine_75 rfl ?_
                  refine zs_if_eq (tgt := 90) dX13_readLine_76 (by decide) (fun c_67 => ?_) (fun c_67 => (by first | exact absurd c_67 (by decide) | exact absurd (by decide) c_67 : False).elim)
                  refine zs_iconst (v := nI 0) dX13_readLine_90 (by decide) ?_
                  have er : (mLn bt n L t tk D) = (pLine bt n L t tk D) := by rw [mLn, if_neg hq]
                  exact zs_zret dX13_readLine_91 rfl (Or.inl rfl) (Or.inr ⟨by rw [er]; exact hq, rfl, g1, w1, rf1, rn1, fr1, by rw [er]; exact h10, by rw [er]; exact h11, rfl⟩)
              · refine zs_iinc (v := (nI 7)) (lv' := [(1, .int (nI 7)), (0, .ref mo)]) dX13_readLine_16 rfl (nI_add _ 1) (Nat.le_of_ble_eq_true rfl) rfl ?_
                refine zs_goto (tgt := 2) dX13_readLine_19 (by decide) ?_
                refine zs_iload_n dX13_readLine_2 rfl ?_
                refine zs_bipush (v := nI 9) dX13_readLine_3 (by decide) ?_
                refine zs_icmp_gt (tgt := 22) dX13_readLine_5 (by decide) (fun c_68 => (by first | exact absurd c_68 (by decide) | exact absurd (by decide) c_68 : False).elim) (fun c_68 => ?_)
                refine zs_aload_n dX13_readLine_8 rfl rfl ?_
                refine zs_iload_n dX13_readLine_9 rfl ?_
                refine zs_callV (M := mX13_isWord) (As := [.int (nI 7)]) (st := []) (Kc := [(mo, .inr (11, fMo e g w))]) (Kr := [((e 1), .inl (0, 740, .inl (nF bt))), ((e 15), .inl (0, 200, .inl rf)), ((e 19), .inl (2, 12, .inr (.inl rn)))]) [0] [1, 2, 3] 0 dX13_readLine_10 zl_RX13_264 kX13_isWord rfl rfl rfl rfl rfl (by decide) rfl rfl (show dd - 1 + 1 ≤ dd by omega) (Nat.zero_le _) (Nat.zero_le _) (Nat.le_of_ble_eq_true rfl) (s_mIsWord l (dd - 1) mo e g w n L t 7 (by omega) (by omega) hT hW hO) (fun r K1 hr => ?_)
                obtain ⟨rfl, rfl⟩ := hr
                refine zs_K (K' := [(mo, .inr (11, fMo e g w)), ((e 1), .inl (0, 740, .inl (nF bt))), ((e 15), .inl (0, 200, .inl rf)), ((e 19), .inl (2, 12, .inr (.inl rn)))]) [3, 0, 1, 2] rfl (by decide) ?_
                refine zs_if_ne (tgt := 22) dX13_readLine_13 (by decide) (fun c_69 => ?_) (fun c_69 => ?_)
                · have hwd := of_decide_eq_true (bI_t c_69)
                  refine zs_iload_n dX13_readLine_22 rfl ?_
                  refine zs_bipush (v := nI 9) dX13_readLine_23 (by decide) ?_
                  refine zs_icmp_le (tgt := 34) dX13_readLine_25 (by decide) (fun c_70 => ?_) (fun c_70 => (by first | exact absurd c_70 (by decide) | exact absurd (by decide) c_70 : False).elim)
                  refine zs_iload_n dX13_readLine_34 rfl ?_
                  refine zs_if_ne (tgt := 45) dX13_readLine_35 (by decide) (fun c_71 => ?_) (fun c_71 => (by first | exact absurd c_71 (by decide) | exact absurd (by decide) c_71 : False).elim)
                  refine zs_iload_n dX13_readLine_45 rfl ?_
                  refine zs_iconst (v := nI 1) dX13_readLine_46 (by decide) ?_
                  refine zs_icmp_ne (tgt := 57) dX13_readLine_47 (by decide) (fun c_72 => ?_) (fun c_72 => (by first | exact absurd c_72 (by decide) | exact absurd (by decide) c_72 : False).elim)
                  refine zs_iload_n dX13_readLine_57 rfl ?_
                  refine zs_iconst (v := nI 2) dX13_readLine_58 (by decide) ?_
                  refine zs_icmp_ne (tgt := 69) dX13_readLine_59 (by decide) (fun c_73 => ?_) (fun c_73 => (by first | exact absurd c_73 (by decide) | exact absurd (by decide) c_73 : False).elim)
                  refine zs_aload_n dX13_readLine_69 rfl rfl ?_
                  refine zs_iload_n dX13_readLine_70 rfl ?_
                  refine zs_callV (M := mX13_readOnce) (As := [.int (nI 7)]) (st := []) (Kc := [(mo, .inr (11, fMo e g w)), ((e 1), .inl (0, 740, .inl (nF bt))), ((e 15), .inl (0, 200, .inl rf)), ((e 19), .inl (2, 12, .inr (.inl rn)))]) (Kr := []) [0, 1, 2, 3] [] 0 dX13_readLine_71 zl_RX13_276 kX13_readOnce rfl rfl rfl rfl rfl (by decide) rfl rfl (show dd - 1 + 1 ≤ dd by omega) (Nat.zero_le _) (Nat.zero_le _) (Nat.le_of_ble_eq_true rfl) (s_mReadOnce l (dd - 1) mo e g w n L bt t tk D rf rn 7 (by omega) hn hL hbt h3 h4 hT hW hO hD hRd (hO.2.2.2.2.2.2.2.2 _ hwd) ⟨by decide, by decide⟩) (fun r K1 hr => ?_)
                  rw [← pLine_w7 (b := bt) (n := n) (L := L) (tk := tk) (D := D) hwd] at hr
                  rcases hr with ⟨hq, rfl, g1, w1, rf1, rn1, fr1, hT1, hW1, hRd1, rfl⟩ | ⟨hq, rfl, g1, w1, rf1, rn1, fr1, h10, h11, rfl⟩
                  · refine zs_K (K' := [(mo, .inr (11, fMo e g1 w1)), ((e 1), .inl (0, 740, .inl (nF bt))), ((e 15), .inl (0, 200, .inl rf1)), ((e 19), .inl (2, 12, .inr (.inl rn1)))]) [0, 1, 2, 3] rfl (by decide) ?_
                    refine zs_istore_n (lv' := [(2, .int (nI 1)), (1, .int (nI 7)), (0, .ref mo)]) dX13_readLine_74 (Nat.le_of_ble_eq_true rfl) rfl ?_
                    refine zs_iload_n dX13_readLine_75 rfl ?_
                    refine zs_if_eq (tgt := 90) dX13_readLine_76 (by decide) (fun c_74 => (by first | exact absurd c_74 (by decide) | exact absurd (by decide) c_74 : False).elim) (fun c_74 => ?_)
                    refine zs_aload_n dX13_readLine_79 rfl rfl ?_
                    have hI := pLine_I (L := L) (tk := tk) hbt hn hO hD
                    refine zs_callV (M := mX13_readEnd) (As := []) (st := []) (Kc := [(mo, .inr (11, fMo e g1 w1)), ((e 1), .inl (0, 740, .inl (nF bt)))]) (Kr := [((e 15), .inl (0, 200, .inl rf1)), ((e 19), .inl (2, 12, .inr (.inl rn1)))]) [0, 1] [2, 3] 0 dX13_readLine_80 zl_RX13_279 kX13_readEnd rfl rfl rfl rfl rfl (by decide) rfl rfl (show dd - 1 + 1 ≤ dd by omega) (Nat.zero_le _) (Nat.zero_le _) (Nat.le_of_ble_eq_true rfl) (s_mReadEnd l (dd - 1) mo e g1 w1 n L bt (pLine bt n L t tk D).2.1 (by omega) hn hL hbt ((fr1 3 (by decide)).trans h3) ((fr1 4 (by decide)).trans h4) hT1 hW1 hI.1) (fun r K1 hr => ?_)
                    rcases hr with ⟨h59, rfl, g2, w2, hfr2, hT2, rfl⟩ | ⟨h59, rfl, rfl⟩
                    · refine zs_K (K' := [(mo, .inr (11, fMo e g2 w2)), ((e 1), .inl (0, 740, .inl (nF bt))), ((e 15), .inl (0, 200, .inl rf1)), ((e 19), .inl (2, 12, .inr (.inl rn1)))]) [2, 3, 0, 1] rfl (by decide) ?_
                      refine zs_if_eq (tgt := 90) dX13_readLine_83 (by decide) (fun c_75 => (by first | exact absurd c_75 (by decide) | exact absurd (by decide) c_75 : False).elim) (fun c_75 => ?_)
                      refine zs_iconst (v := nI 1) dX13_readLine_86 (by decide) ?_
                      refine zs_goto (tgt := 91) dX13_readLine_87 (by decide) ?_
                      have er : (mLn bt n L t tk D) = (0, nxt bt n L (pLine bt n L t tk D).2.1, (pLine bt n L t tk D).2.2) := by rw [mLn, if_pos hq, if_pos h59]
                      exact zs_zret dX13_readLine_91 rfl (Or.inr rfl) (Or.inl ⟨by rw [er], rfl, g2, w2, rf1, rn1, mFr_t fr1 hfr2 (by decide) (by decide), by rw [er]; exact hT2, by rw [er]; exact nxt_W, by rw [er]; exact ⟨hRd1.1, hRd1.2.1, (hfr2 23 (by decide)).trans hRd1.2.2⟩, rfl⟩)
                    · refine zs_K (K' := [(mo, .inr (11, fMo e (mFa g1 1 (pLine bt n L t tk D).2.1) w1)), ((e 1), .inl (0, 740, .inl (nF bt))), ((e 15), .inl (0, 200, .inl rf1)), ((e 19), .inl (2, 12, .inr (.inl rn1)))]) [2, 3, 0, 1] rfl (by decide) ?_
                      refine zs_if_eq (tgt := 90) dX13_readLine_83 (by decide) (fun c_76 => ?_) (fun c_76 => (by first | exact absurd c_76 (by decide) | exact absurd (by decide) c_76 : False).elim)
                      refine zs_iconst (v := nI 0) dX13_readLine_90 (by decide) ?_
                      have er : (mLn bt n L t tk D) = (1, (pLine bt n L t tk D).2) := by rw [mLn, if_pos hq, if_neg (fun h => by rw [h59] at h; exact absurd h (by decide))]
                      exact zs_zret dX13_readLine_91 rfl (Or.inl rfl) (Or.inr ⟨by rw [er]; exact (show ¬ 1 = 0 by decide), rfl, mFa g1 1 (pLine bt n L t tk D).2.1, w1, rf1, rn1, mFr_fa fr1 (by decide) (by decide), by rw [er]; rfl, by rw [er]; rfl, rfl⟩)
                  · refine zs_K (K' := [(mo, .inr (11, fMo e g1 w1)), ((e 1), .inl (0, 740, .inl (nF bt))), ((e 15), .inl (0, 200, .inl rf1)), ((e 19), .inl (2, 12, .inr (.inl rn1)))]) [0, 1, 2, 3] rfl (by decide) ?_
                    refine zs_istore_n (lv' := [(2, .int (nI 0)), (1, .int (nI 7)), (0, .ref mo)]) dX13_readLine_74 (Nat.le_of_ble_eq_true rfl) rfl ?_
                    refine zs_iload_n dX13_readLine_75 rfl ?_
                    refine zs_if_eq (tgt := 90) dX13_readLine_76 (by decide) (fun c_77 => ?_) (fun c_77 => (by first | exact absurd c_77 (by decide) | exact absurd (by decide) c_77 : False).elim)
                    refine zs_iconst (v := nI 0) dX13_readLine_90 (by decide) ?_
                    have er : (mLn bt n L t tk D) = (pLine bt n L t tk D) := by rw [mLn, if_neg hq]
                    exact zs_zret dX13_readLine_91 rfl (Or.inl rfl) (Or.inr ⟨by rw [er]; exact hq, rfl, g1, w1, rf1, rn1, fr1, by rw [er]; exact h10, by rw [er]; exact h11, rfl⟩)
                · refine zs_iinc (v := (nI 8)) (lv' := [(1, .int (nI 8)), (0, .ref mo)]) dX13_readLine_16 rfl (nI_add _ 1) (Nat.le_of_ble_eq_true rfl) rfl ?_
                  refine zs_goto (tgt := 2) dX13_readLine_19 (by decide) ?_
                  refine zs_iload_n dX13_readLine_2 rfl ?_
                  refine zs_bipush (v := nI 9) dX13_readLine_3 (by decide) ?_
                  refine zs_icmp_gt (tgt := 22) dX13_readLine_5 (by decide) (fun c_78 => (by first | exact absurd c_78 (by decide) | exact absurd (by decide) c_78 : False).elim) (fun c_78 => ?_)
                  refine zs_aload_n dX13_readLine_8 rfl rfl ?_
                  refine zs_iload_n dX13_readLine_9 rfl ?_
                  refine zs_callV (M := mX13_isWord) (As := [.int (nI 8)]) (st := []) (Kc := [(mo, .inr (11, fMo e g w))]) (Kr := [((e 1), .inl (0, 740, .inl (nF bt))), ((e 15), .inl (0, 200, .inl rf)), ((e 19), .inl (2, 12, .inr (.inl rn)))]) [0] [1, 2, 3] 0 dX13_readLine_10 zl_RX13_264 kX13_isWord rfl rfl rfl rfl rfl (by decide) rfl rfl (show dd - 1 + 1 ≤ dd by omega) (Nat.zero_le _) (Nat.zero_le _) (Nat.le_of_ble_eq_true rfl) (s_mIsWord l (dd - 1) mo e g w n L t 8 (by omega) (by omega) hT hW hO) (fun r K1 hr => ?_)
                  obtain ⟨rfl, rfl⟩ := hr
                  refine zs_K (K' := [(mo, .inr (11, fMo e g w)), ((e 1), .inl (0, 740, .inl (nF bt))), ((e 15), .inl (0, 200, .inl rf)), ((e 19), .inl (2, 12, .inr (.inl rn)))]) [3, 0, 1, 2] rfl (by decide) ?_
                  refine zs_if_ne (tgt := 22) dX13_readLine_13 (by decide) (fun c_79 => ?_) (fun c_79 => ?_)
                  · have hwd := of_decide_eq_true (bI_t c_79)
                    refine zs_iload_n dX13_readLine_22 rfl ?_
                    refine zs_bipush (v := nI 9) dX13_readLine_23 (by decide) ?_
                    refine zs_icmp_le (tgt := 34) dX13_readLine_25 (by decide) (fun c_80 => ?_) (fun c_80 => (by first | exact absurd c_80 (by decide) | exact absurd (by decide) c_80 : False).elim)
                    refine zs_iload_n dX13_readLine_34 rfl ?_
                    refine zs_if_ne (tgt := 45) dX13_readLine_35 (by decide) (fun c_81 => ?_) (fun c_81 => (by first | exact absurd c_81 (by decide) | exact absurd (by decide) c_81 : False).elim)
                    refine zs_iload_n dX13_readLine_45 rfl ?_
                    refine zs_iconst (v := nI 1) dX13_readLine_46 (by decide) ?_
                    refine zs_icmp_ne (tgt := 57) dX13_readLine_47 (by decide) (fun c_82 => ?_) (fun c_82 => (by first | exact absurd c_82 (by decide) | exact absurd (by decide) c_82 : False).elim)
                    refine zs_iload_n dX13_readLine_57 rfl ?_
                    refine zs_iconst (v := nI 2) dX13_readLine_58 (by decide) ?_
                    refine zs_icmp_ne (tgt := 69) dX13_readLine_59 (by decide) (fun c_83 => ?_) (fun c_83 => (by first | exact absurd c_83 (by decide) | exact absurd (by decide) c_83 : False).elim)
                    refine zs_aload_n dX13_readLine_69 rfl rfl ?_
                    refine zs_iload_n dX13_readLine_70 rfl ?_
                    refine zs_callV (M := mX13_readOnce) (As := [.int (nI 8)]) (st := []) (Kc := [(mo, .inr (11, fMo e g w)), ((e 1), .inl (0, 740, .inl (nF bt))), ((e 15), .inl (0, 200, .inl rf)), ((e 19), .inl (2, 12, .inr (.inl rn)))]) (Kr := []) [0, 1, 2, 3] [] 0 dX13_readLine_71 zl_RX13_276 kX13_readOnce rfl rfl rfl rfl rfl (by decide) rfl rfl (show dd - 1 + 1 ≤ dd by omega) (Nat.zero_le _) (Nat.zero_le _) (Nat.le_of_ble_eq_true rfl) (s_mReadOnce l (dd - 1) mo e g w n L bt t tk D rf rn 8 (by omega) hn hL hbt h3 h4 hT hW hO hD hRd (hO.2.2.2.2.2.2.2.2 _ hwd) ⟨by decide, by decide⟩) (fun r K1 hr => ?_)
                    rw [← pLine_w8 (b := bt) (n := n) (L := L) (tk := tk) (D := D) hwd] at hr
                    rcases hr with ⟨hq, rfl, g1, w1, rf1, rn1, fr1, hT1, hW1, hRd1, rfl⟩ | ⟨hq, rfl, g1, w1, rf1, rn1, fr1, h10, h11, rfl⟩
                    · refine zs_K (K' := [(mo, .inr (11, fMo e g1 w1)), ((e 1), .inl (0, 740, .inl (nF bt))), ((e 15), .inl (0, 200, .inl rf1)), ((e 19), .inl (2, 12, .inr (.inl rn1)))]) [0, 1, 2, 3] rfl (by decide) ?_
                      refine zs_istore_n (lv' := [(2, .int (nI 1)), (1, .int (nI 8)), (0, .ref mo)]) dX13_readLine_74 (Nat.le_of_ble_eq_true rfl) rfl ?_
                      refine zs_iload_n dX13_readLine_75 rfl ?_
                      refine zs_if_eq (tgt := 90) dX13_readLine_76 (by decide) (fun c_84 => (by first | exact absurd c_84 (by decide) | exact absurd (by decide) c_84 : False).elim) (fun c_84 => ?_)
                      refine zs_aload_n dX13_readLine_79 rfl rfl ?_
                      have hI := pLine_I (L := L) (tk := tk) hbt hn hO hD
                      refine zs_callV (M := mX13_readEnd) (As := []) (st := []) (Kc := [(mo, .inr (11, fMo e g1 w1)), ((e 1), .inl (0, 740, .inl (nF bt)))]) (Kr := [((e 15), .inl (0, 200, .inl rf1)), ((e 19), .inl (2, 12, .inr (.inl rn1)))]) [0, 1] [2, 3] 0 dX13_readLine_80 zl_RX13_279 kX13_readEnd rfl rfl rfl rfl rfl (by decide) rfl rfl (show dd - 1 + 1 ≤ dd by omega) (Nat.zero_le _) (Nat.zero_le _) (Nat.le_of_ble_eq_true rfl) (s_mReadEnd l (dd - 1) mo e g1 w1 n L bt (pLine bt n L t tk D).2.1 (by omega) hn hL hbt ((fr1 3 (by decide)).trans h3) ((fr1 4 (by decide)).trans h4) hT1 hW1 hI.1) (fun r K1 hr => ?_)
                      rcases hr with ⟨h59, rfl, g2, w2, hfr2, hT2, rfl⟩ | ⟨h59, rfl, rfl⟩
                      · refine zs_K (K' := [(mo, .inr (11, fMo e g2 w2)), ((e 1), .inl (0, 740, .inl (nF bt))), ((e 15), .inl (0, 200, .inl rf1)), ((e 19), .inl (2, 12, .inr (.inl rn1)))]) [2, 3, 0, 1] rfl (by decide) ?_
                        refine zs_if_eq (tgt := 90) dX13_readLine_83 (by decide) (fun c_85 => (by first | exact absurd c_85 (by decide) | exact absurd (by decide) c_85 : False).elim) (fun c_85 => ?_)
                        refine zs_iconst (v := nI 1) dX13_readLine_86 (by decide) ?_
                        refine zs_goto (tgt := 91) dX13_readLine_87 (by decide) ?_
                        have er : (mLn bt n L t tk D) = (0, nxt bt n L (pLine bt n L t tk D).2.1, (pLine bt n L t tk D).2.2) := by rw [mLn, if_pos hq, if_pos h59]
                        exact zs_zret dX13_readLine_91 rfl (Or.inr rfl) (Or.inl ⟨by rw [er], rfl, g2, w2, rf1, rn1, mFr_t fr1 hfr2 (by decide) (by decide), by rw [er]; exact hT2, by rw [er]; exact nxt_W, by rw [er]; exact ⟨hRd1.1, hRd1.2.1, (hfr2 23 (by decide)).trans hRd1.2.2⟩, rfl⟩)
                      · refine zs_K (K' := [(mo, .inr (11, fMo e (mFa g1 1 (pLine bt n L t tk D).2.1) w1)), ((e 1), .inl (0, 740, .inl (nF bt))), ((e 15), .inl (0, 200, .inl rf1)), ((e 19), .inl (2, 12, .inr (.inl rn1)))]) [2, 3, 0, 1] rfl (by decide) ?_
                        refine zs_if_eq (tgt := 90) dX13_readLine_83 (by decide) (fun c_86 => ?_) (fun c_86 => (by first | exact absurd c_86 (by decide) | exact absurd (by decide) c_86 : False).elim)
                        refine zs_iconst (v := nI 0) dX13_readLine_90 (by decide) ?_
                        have er : (mLn bt n L t tk D) = (1, (pLine bt n L t tk D).2) := by rw [mLn, if_pos hq, if_neg (fun h => by rw [h59] at h; exact absurd h (by decide))]
                        exact zs_zret dX13_readLine_91 rfl (Or.inl rfl) (Or.inr ⟨by rw [er]; exact (show ¬ 1 = 0 by decide), rfl, mFa g1 1 (pLine bt n L t tk D).2.1, w1, rf1, rn1, mFr_fa fr1 (by decide) (by decide), by rw [er]; rfl, by rw [er]; rfl, rfl⟩)
                    · refine zs_K (K' := [(mo, .inr (11, fMo e g1 w1)), ((e 1), .inl (0, 740, .inl (nF bt))), ((e 15), .inl (0, 200, .inl rf1)), ((e 19), .inl (2, 12, .inr (.inl rn1)))]) [0, 1, 2, 3] rfl (by decide) ?_
                      refine zs_istore_n (lv' := [(2, .int (nI 0)), (1, .int (nI 8)), (0, .ref mo)]) dX13_readLine_74 (Nat.le_of_ble_eq_true rfl) rfl ?_
                      refine zs_iload_n dX13_readLine_75 rfl ?_
                      refine zs_if_eq (tgt := 90) dX13_readLine_76 (by decide) (fun c_87 => ?_) (fun c_87 => (by first | exact absurd c_87 (by decide) | exact absurd (by decide) c_87 : False).elim)
                      refine zs_iconst (v := nI 0) dX13_readLine_90 (by decide) ?_
                      have er : (mLn bt n L t tk D) = (pLine bt n L t tk D) := by rw [mLn, if_neg hq]
                      exact zs_zret dX13_readLine_91 rfl (Or.inl rfl) (Or.inr ⟨by rw [er]; exact hq, rfl, g1, w1, rf1, rn1, fr1, by rw [er]; exact h10, by rw [er]; exact h11, rfl⟩)
                  · refine zs_iinc (v := (nI 9)) (lv' := [(1, .int (nI 9)), (0, .ref mo)]) dX13_readLine_16 rfl (nI_add _ 1) (Nat.le_of_ble_eq_true rfl) rfl ?_
                    refine zs_goto (tgt := 2) dX13_readLine_19 (by decide) ?_
                    refine zs_iload_n dX13_readLine_2 rfl ?_
                    refine zs_bipush (v := nI 9) dX13_readLine_3 (by decide) ?_
                    refine zs_icmp_gt (tgt := 22) dX13_readLine_5 (by decide) (fun c_88 => (by first | exact absurd c_88 (by decide) | exact absurd (by decide) c_88 : False).elim) (fun c_88 => ?_)
                    refine zs_aload_n dX13_readLine_8 rfl rfl ?_
                    refine zs_iload_n dX13_readLine_9 rfl ?_
                    refine zs_callV (M := mX13_isWord) (As := [.int (nI 9)]) (st := []) (Kc := [(mo, .inr (11, fMo e g w))]) (Kr := [((e 1), .inl (0, 740, .inl (nF bt))), ((e 15), .inl (0, 200, .inl rf)), ((e 19), .inl (2, 12, .inr (.inl rn)))]) [0] [1, 2, 3] 0 dX13_readLine_10 zl_RX13_264 kX13_isWord rfl rfl rfl rfl rfl (by decide) rfl rfl (show dd - 1 + 1 ≤ dd by omega) (Nat.zero_le _) (Nat.zero_le _) (Nat.le_of_ble_eq_true rfl) (s_mIsWord l (dd - 1) mo e g w n L t 9 (by omega) (by omega) hT hW hO) (fun r K1 hr => ?_)
                    obtain ⟨rfl, rfl⟩ := hr
                    refine zs_K (K' := [(mo, .inr (11, fMo e g w)), ((e 1), .inl (0, 740, .inl (nF bt))), ((e 15), .inl (0, 200, .inl rf)), ((e 19), .inl (2, 12, .inr (.inl rn)))]) [3, 0, 1, 2] rfl (by decide) ?_
                    refine zs_if_ne (tgt := 22) dX13_readLine_13 (by decide) (fun c_89 => ?_) (fun c_89 => ?_)
                    · have hwd := of_decide_eq_true (bI_t c_89)
                      refine zs_iload_n dX13_readLine_22 rfl ?_
                      refine zs_bipush (v := nI 9) dX13_readLine_23 (by decide) ?_
                      refine zs_icmp_le (tgt := 34) dX13_readLine_25 (by decide) (fun c_90 => ?_) (fun c_90 => (by first | exact absurd c_90 (by decide) | exact absurd (by decide) c_90 : False).elim)
                      refine zs_iload_n dX13_readLine_34 rfl ?_
                      refine zs_if_ne (tgt := 45) dX13_readLine_35 (by decide) (fun c_91 => ?_) (fun c_91 => (by first | exact absurd c_91 (by decide) | exact absurd (by decide) c_91 : False).elim)
                      refine zs_iload_n dX13_readLine_45 rfl ?_
                      refine zs_iconst (v := nI 1) dX13_readLine_46 (by decide) ?_
                      refine zs_icmp_ne (tgt := 57) dX13_readLine_47 (by decide) (fun c_92 => ?_) (fun c_92 => (by first | exact absurd c_92 (by decide) | exact absurd (by decide) c_92 : False).elim)
                      refine zs_iload_n dX13_readLine_57 rfl ?_
                      refine zs_iconst (v := nI 2) dX13_readLine_58 (by decide) ?_
                      refine zs_icmp_ne (tgt := 69) dX13_readLine_59 (by decide) (fun c_93 => ?_) (fun c_93 => (by first | exact absurd c_93 (by decide) | exact absurd (by decide) c_93 : False).elim)
                      refine zs_aload_n dX13_readLine_69 rfl rfl ?_
                      refine zs_iload_n dX13_readLine_70 rfl ?_
                      refine zs_callV (M := mX13_readOnce) (As := [.int (nI 9)]) (st := []) (Kc := [(mo, .inr (11, fMo e g w)), ((e 1), .inl (0, 740, .inl (nF bt))), ((e 15), .inl (0, 200, .inl rf)), ((e 19), .inl (2, 12, .inr (.inl rn)))]) (Kr := []) [0, 1, 2, 3] [] 0 dX13_readLine_71 zl_RX13_276 kX13_readOnce rfl rfl rfl rfl rfl (by decide) rfl rfl (show dd - 1 + 1 ≤ dd by omega) (Nat.zero_le _) (Nat.zero_le _) (Nat.le_of_ble_eq_true rfl) (s_mReadOnce l (dd - 1) mo e g w n L bt t tk D rf rn 9 (by omega) hn hL hbt h3 h4 hT hW hO hD hRd (hO.2.2.2.2.2.2.2.2 _ hwd) ⟨by decide, by decide⟩) (fun r K1 hr => ?_)
                      rw [← pLine_w9 (b := bt) (n := n) (L := L) (tk := tk) (D := D) hwd] at hr
                      rcases hr with ⟨hq, rfl, g1, w1, rf1, rn1, fr1, hT1, hW1, hRd1, rfl⟩ | ⟨hq, rfl, g1, w1, rf1, rn1, fr1, h10, h11, rfl⟩
                      · refine zs_K (K' := [(mo, .inr (11, fMo e g1 w1)), ((e 1), .inl (0, 740, .inl (nF bt))), ((e 15), .inl (0, 200, .inl rf1)), ((e 19), .inl (2, 12, .inr (.inl rn1)))]) [0, 1, 2, 3] rfl (by decide) ?_
                        refine zs_istore_n (lv' := [(2, .int (nI 1)), (1, .int (nI 9)), (0, .ref mo)]) dX13_readLine_74 (Nat.le_of_ble_eq_true rfl) rfl ?_
                        refine zs_iload_n dX13_readLine_75 rfl ?_
                        refine zs_if_eq (tgt := 90) dX13_readLine_76 (by decide) (fun c_94 => (by first | exact absurd c_94 (by decide) | exact absurd (by decide) c_94 : False).elim) (fun c_94 => ?_)
                        refine zs_aload_n dX13_readLine_79 rfl rfl ?_
                        have hI := pLine_I (L := L) (tk := tk) hbt hn hO hD
                        refine zs_callV (M := mX13_readEnd) (As := []) (st := []) (Kc := [(mo, .inr (11, fMo e g1 w1)), ((e 1), .inl (0, 740, .inl (nF bt)))]) (Kr := [((e 15), .inl (0, 200, .inl rf1)), ((e 19), .inl (2, 12, .inr (.inl rn1)))]) [0, 1] [2, 3] 0 dX13_readLine_80 zl_RX13_279 kX13_readEnd rfl rfl rfl rfl rfl (by decide) rfl rfl (show dd - 1 + 1 ≤ dd by omega) (Nat.zero_le _) (Nat.zero_le _) (Nat.le_of_ble_eq_true rfl) (s_mReadEnd l (dd - 1) mo e g1 w1 n L bt (pLine bt n L t tk D).2.1 (by omega) hn hL hbt ((fr1 3 (by decide)).trans h3) ((fr1 4 (by decide)).trans h4) hT1 hW1 hI.1) (fun r K1 hr => ?_)
                        rcases hr with ⟨h59, rfl, g2, w2, hfr2, hT2, rfl⟩ | ⟨h59, rfl, rfl⟩
                        · refine zs_K (K' := [(mo, .inr (11, fMo e g2 w2)), ((e 1), .inl (0, 740, .inl (nF bt))), ((e 15), .inl (0, 200, .inl rf1)), ((e 19), .inl (2, 12, .inr (.inl rn1)))]) [2, 3, 0, 1] rfl (by decide) ?_
                          refine zs_if_eq (tgt := 90) dX13_readLine_83 (by decide) (fun c_95 => (by first | exact absurd c_95 (by decide) | exact absurd (by decide) c_95 : False).elim) (fun c_95 => ?_)
                          refine zs_iconst (v := nI 1) dX13_readLine_86 (by decide) ?_
                          refine zs_goto (tgt := 91) dX13_readLine_87 (by decide) ?_
                          have er : (mLn bt n L t tk D) = (0, nxt bt n L (pLine bt n L t tk D).2.1, (pLine bt n L t tk D).2.2) := by rw [mLn, if_pos hq, if_pos h59]
                          exact zs_zret dX13_readLine_91 rfl (Or.inr rfl) (Or.inl ⟨by rw [er], rfl, g2, w2, rf1, rn1, mFr_t fr1 hfr2 (by decide) (by decide), by rw [er]; exact hT2, by rw [er]; exact nxt_W, by rw [er]; exact ⟨hRd1.1, hRd1.2.1, (hfr2 23 (by decide)).trans hRd1.2.2⟩, rfl⟩)
                        · refine zs_K (K' := [(mo, .inr (11, fMo e (mFa g1 1 (pLine bt n L t tk D).2.1) w1)), ((e 1), .inl (0, 740, .inl (nF bt))), ((e 15), .inl (0, 200, .inl rf1)), ((e 19), .inl (2, 12, .inr (.inl rn1)))]) [2, 3, 0, 1] rfl (by decide) ?_
                          refine zs_if_eq (tgt := 90) dX13_readLine_83 (by decide) (fun c_96 => ?_) (fun c_96 => (by first | exact absurd c_96 (by decide) | exact absurd (by decide) c_96 : False).elim)
                          refine zs_iconst (v := nI 0) dX13_readLine_90 (by decide) ?_
                          have er : (mLn bt n L t tk D) = (1, (pLine bt n L t tk D).2) := by rw [mLn, if_pos hq, if_neg (fun h => by rw [h59] at h; exact absurd h (by decide))]
                          exact zs_zret dX13_readLine_91 rfl (Or.inl rfl) (Or.inr ⟨by rw [er]; exact (show ¬ 1 = 0 by decide), rfl, mFa g1 1 (pLine bt n L t tk D).2.1, w1, rf1, rn1, mFr_fa fr1 (by decide) (by decide), by rw [er]; rfl, by rw [er]; rfl, rfl⟩)
                      · refine zs_K (K' := [(mo, .inr (11, fMo e g1 w1)), ((e 1), .inl (0, 740, .inl (nF bt))), ((e 15), .inl (0, 200, .inl rf1)), ((e 19), .inl (2, 12, .inr (.inl rn1)))]) [0, 1, 2, 3] rfl (by decide) ?_
                        refine zs_istore_n (lv' := [(2, .int (nI 0)), (1, .int (nI 9)), (0, .ref mo)]) dX13_readLine_74 (Nat.le_of_ble_eq_true rfl) rfl ?_
                        refine zs_iload_n dX13_readLine_75 rfl ?_
                        refine zs_if_eq (tgt := 90) dX13_readLine_76 (by decide) (fun c_97 => ?_) (fun c_97 => (by first | exact absurd c_97 (by decide) | exact absurd (by decide) c_97 : False).elim)
                        refine zs_iconst (v := nI 0) dX13_readLine_90 (by decide) ?_
                        have er : (mLn bt n L t tk D) = (pLine bt n L t tk D) := by rw [mLn, if_neg hq]
                        exact zs_zret dX13_readLine_91 rfl (Or.inl rfl) (Or.inr ⟨by rw [er]; exact hq, rfl, g1, w1, rf1, rn1, fr1, by rw [er]; exact h10, by rw [er]; exact h11, rfl⟩)
                    · refine zs_iinc (v := (nI 10)) (lv' := [(1, .int (nI 10)), (0, .ref mo)]) dX13_readLine_16 rfl (nI_add _ 1) (Nat.le_of_ble_eq_true rfl) rfl ?_
                      refine zs_goto (tgt := 2) dX13_readLine_19 (by decide) ?_
                      refine zs_iload_n dX13_readLine_2 rfl ?_
                      refine zs_bipush (v := nI 9) dX13_readLine_3 (by decide) ?_
                      refine zs_icmp_gt (tgt := 22) dX13_readLine_5 (by decide) (fun c_98 => ?_) (fun c_98 => (by first | exact absurd c_98 (by decide) | exact absurd (by decide) c_98 : False).elim)
                      refine zs_iload_n dX13_readLine_22 rfl ?_
                      refine zs_bipush (v := nI 9) dX13_readLine_23 (by decide) ?_
                      refine zs_icmp_le (tgt := 34) dX13_readLine_25 (by decide) (fun c_99 => (by first | exact absurd c_99 (by decide) | exact absurd (by decide) c_99 : False).elim) (fun c_99 => ?_)
                      refine zs_aload_n dX13_readLine_28 rfl rfl ?_
                      refine zs_iconst (v := nI 1) dX13_readLine_29 (by decide) ?_
                      refine zs_callV (M := mX13_bad) (As := [.int (nI 1)]) (st := []) (Kc := [(mo, .inr (11, fMo e g w))]) (Kr := [((e 1), .inl (0, 740, .inl (nF bt))), ((e 15), .inl (0, 200, .inl rf)), ((e 19), .inl (2, 12, .inr (.inl rn)))]) [0] [1, 2, 3] 0 dX13_readLine_30 zl_RX13_216 kX13_bad rfl rfl rfl rfl rfl (by decide) rfl rfl (show dd - 1 + 1 ≤ dd by omega) (Nat.zero_le _) (Nat.zero_le _) (Nat.le_of_ble_eq_true rfl) (s_mBad l (dd - 1) mo e g w n L t 1 hT hW hO) (fun r K1 hr => ?_)
                      rw [mBad_e (by first | (intro; rfl) | (intro h; unfold mKd at h; split at h <;> omega))] at hr
                      obtain ⟨rfl, rfl⟩ := hr
                      refine zs_K (K' := [(mo, .inr (11, fMo e (mFa g 1 t) w)), ((e 1), .inl (0, 740, .inl (nF bt))), ((e 15), .inl (0, 200, .inl rf)), ((e 19), .inl (2, 12, .inr (.inl rn)))]) [3, 0, 1, 2] rfl (by decide) ?_
                      have hno : ∀ w_, w_ < 10 → ¬ t.2.2.2.2 = some (mPm w_) := fun w_ hw_ => by
                        have : w_ = 0 ∨ w_ = 1 ∨ w_ = 2 ∨ w_ = 3 ∨ w_ = 4 ∨ w_ = 5 ∨ w_ = 6 ∨ w_ = 7 ∨ w_ = 8 ∨ w_ = 9 := by omega
                        rcases this with rfl | rfl | rfl | rfl | rfl | rfl | rfl | rfl | rfl | rfl
                        · exact of_decide_eq_false (bI_f c_2)
                        · exact of_decide_eq_false (bI_f c_10)
                        · exact of_decide_eq_false (bI_f c_19)
                        · exact of_decide_eq_false (bI_f c_29)
                        · exact of_decide_eq_false (bI_f c_39)
                        · exact of_decide_eq_false (bI_f c_49)
                        · exact of_decide_eq_false (bI_f c_59)
                        · exact of_decide_eq_false (bI_f c_69)
                        · exact of_decide_eq_false (bI_f c_79)
                        · exact of_decide_eq_false (bI_f c_89)
                      have er : (mLn bt n L t tk D) = (1, t, tk, D) := by rw [mLn, pLine_0 hO hno]; rfl
                      exact zs_zret dX13_readLine_33 rfl (Or.inl rfl) (Or.inr ⟨by rw [er]; exact (show ¬ 1 = 0 by decide), rfl, mFa g 1 t, w, rf, rn, mFr_fa mFr_r (by decide) (by decide), by rw [er]; rfl, by rw [er]; rfl, rfl⟩)
