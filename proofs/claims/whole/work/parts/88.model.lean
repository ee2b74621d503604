/-! ===== the reference: a yard read ===== -/
section
variable {b : Nat → Nat} {n L q i : Nat} {t : zTk} {tk : Nat} {D : zYd}
theorem pLs_e (h0 : t.1 = 0) (h : n ≤ L) : pLines b n L q t tk D i = ((0, t, tk, D), i) := by
  have he : tEn n L t = true := by rw [tEn, decide_eq_true h0, decide_eq_true h]; rfl
  cases q with
  | zero => rw [pLines, if_pos he]
  | succ q => rw [pLines, if_pos h0, if_pos he]
theorem pLs_x (h0 : t.1 = 0) (h : L < n) : pLines b n L q t tk D i = ((1, t, tk, D), i) := by
  have he : ¬ tEn n L t = true := by rw [tEn, decide_eq_true h0, decide_eq_false (show ¬ n ≤ L by omega)]; decide
  cases q with
  | zero => rw [pLines, if_neg he]
  | succ q => rw [pLines, if_pos h0, if_neg he]
theorem pLs_s (h0 : ¬ t.1 = 0) (h : (mLn b n L t tk D).1 = 0) : pLines b n L (q + 1) t tk D i = pLines b n L q (mLn b n L t tk D).2.1 (mLn b n L t tk D).2.2.1 (mLn b n L t tk D).2.2.2 (i + 1) ∧ (pLine b n L t tk D).1 = 0 ∧ tAt (pLine b n L t tk D).2.1 59 = true ∧ (mLn b n L t tk D).2.1 = nxt b n L (pLine b n L t tk D).2.1 ∧ (mLn b n L t tk D).2.2 = (pLine b n L t tk D).2.2 := by
  unfold mLn at h ⊢
  split at h
  · rename_i h1
    split at h
    · rename_i h2
      rw [pLines, if_neg h0, if_pos h1, if_pos h2, if_pos h1, if_pos h2]
      exact ⟨rfl, h1, h2, rfl, rfl⟩
    · exact absurd (show (1 : Nat) = 0 from h) (by decide)
  · rename_i h1
    exact absurd h h1
theorem pLs_f (h0 : ¬ t.1 = 0) (h : ¬ (mLn b n L t tk D).1 = 0) : (pLines b n L (q + 1) t tk D i).1.1 = (mLn b n L t tk D).1 ∧ (pLines b n L (q + 1) t tk D i).1.2.1 = (mLn b n L t tk D).2.1 := by
  unfold mLn at h ⊢
  by_cases h1 : (pLine b n L t tk D).1 = 0
  · rw [if_pos h1] at h ⊢
    by_cases h2 : tAt (pLine b n L t tk D).2.1 59 = true
    · rw [if_pos h2] at h
      exact absurd rfl h
    · rw [pLines, if_neg h0, if_pos h1, if_neg h2, if_neg h2]
      exact ⟨rfl, rfl⟩
  · rw [pLines, if_neg h0, if_neg h1, if_neg h1]
    exact ⟨rfl, rfl⟩
theorem mLn_0 (hO : tOK t) (hW : tW n L t) (h0 : t.1 = 0) : mLn b n L t tk D = (1, t, tk, D) := by
  have hw := hW.2.2.1 (by omega)
  unfold mLn
  rw [pLine_n hw]
  rfl
end
theorem dX13_yard_0 : decode cX13_yard 0 = .ok (.aload_n 0, 1) := by decide +kernel
theorem dX13_yard_1 : decode cX13_yard 1 = .ok (.sipush 700, 3) := by decide +kernel
theorem dX13_yard_4 : decode cX13_yard 4 = .ok (.invokevirtual 282, 3) := by decide +kernel
theorem dX13_yard_7 : decode cX13_yard 7 = .ok (.aload_n 0, 1) := by decide +kernel
theorem dX13_yard_8 : decode cX13_yard 8 = .ok (.getfield 16, 3) := by decide +kernel
theorem dX13_yard_11 : decode cX13_yard 11 = .ok (.invokestatic 243, 3) := by decide +kernel
theorem dX13_yard_14 : decode cX13_yard 14 = .ok (.aload_n 0, 1) := by decide +kernel
theorem dX13_yard_15 : decode cX13_yard 15 = .ok (.iconst 0, 1) := by decide +kernel
theorem dX13_yard_16 : decode cX13_yard 16 = .ok (.putfield 255, 3) := by decide +kernel
theorem dX13_yard_19 : decode cX13_yard 19 = .ok (.iconst 0, 1) := by decide +kernel
theorem dX13_yard_20 : decode cX13_yard 20 = .ok (.istore_n 1, 1) := by decide +kernel
theorem dX13_yard_21 : decode cX13_yard 21 = .ok (.aload_n 0, 1) := by decide +kernel
theorem dX13_yard_22 : decode cX13_yard 22 = .ok (.getfield 170, 3) := by decide +kernel
theorem dX13_yard_25 : decode cX13_yard 25 = .ok (.ifCond .eq 23, 3) := by decide +kernel
theorem dX13_yard_28 : decode cX13_yard 28 = .ok (.aload_n 0, 1) := by decide +kernel
theorem dX13_yard_29 : decode cX13_yard 29 = .ok (.invokevirtual 285, 3) := by decide +kernel
theorem dX13_yard_32 : decode cX13_yard 32 = .ok (.ifCond .ne 10, 3) := by decide +kernel
theorem dX13_yard_35 : decode cX13_yard 35 = .ok (.iconst (-1), 1) := by decide +kernel
theorem dX13_yard_36 : decode cX13_yard 36 = .ok (.aload_n 0, 1) := by decide +kernel
theorem dX13_yard_37 : decode cX13_yard 37 = .ok (.getfield 213, 3) := by decide +kernel
theorem dX13_yard_40 : decode cX13_yard 40 = .ok (.isub, 1) := by decide +kernel
theorem dX13_yard_41 : decode cX13_yard 41 = .ok (.ireturn, 1) := by decide +kernel
theorem dX13_yard_42 : decode cX13_yard 42 = .ok (.iinc 1 1, 3) := by decide +kernel
theorem dX13_yard_45 : decode cX13_yard 45 = .ok (.goto (-24), 3) := by decide +kernel
theorem dX13_yard_48 : decode cX13_yard 48 = .ok (.iconst 0, 1) := by decide +kernel
theorem dX13_yard_49 : decode cX13_yard 49 = .ok (.istore_n 2, 1) := by decide +kernel
theorem dX13_yard_50 : decode cX13_yard 50 = .ok (.iload_n 2, 1) := by decide +kernel
theorem dX13_yard_51 : decode cX13_yard 51 = .ok (.sipush 200, 3) := by decide +kernel
theorem dX13_yard_54 : decode cX13_yard 54 = .ok (.if_icmp .ge 21, 3) := by decide +kernel
theorem dX13_yard_57 : decode cX13_yard 57 = .ok (.aload_n 0, 1) := by decide +kernel
theorem dX13_yard_58 : decode cX13_yard 58 = .ok (.getfield 13, 3) := by decide +kernel
theorem dX13_yard_61 : decode cX13_yard 61 = .ok (.iload_n 2, 1) := by decide +kernel
theorem dX13_yard_62 : decode cX13_yard 62 = .ok (.aload_n 0, 1) := by decide +kernel
theorem dX13_yard_63 : decode cX13_yard 63 = .ok (.getfield 16, 3) := by decide +kernel
theorem dX13_yard_66 : decode cX13_yard 66 = .ok (.iload_n 2, 1) := by decide +kernel
theorem dX13_yard_67 : decode cX13_yard 67 = .ok (.iaload, 1) := by decide +kernel
theorem dX13_yard_68 : decode cX13_yard 68 = .ok (.iastore, 1) := by decide +kernel
theorem dX13_yard_69 : decode cX13_yard 69 = .ok (.iinc 2 1, 3) := by decide +kernel
theorem dX13_yard_72 : decode cX13_yard 72 = .ok (.goto (-22), 3) := by decide +kernel
theorem dX13_yard_75 : decode cX13_yard 75 = .ok (.iconst 0, 1) := by decide +kernel
theorem dX13_yard_76 : decode cX13_yard 76 = .ok (.istore_n 2, 1) := by decide +kernel
theorem dX13_yard_77 : decode cX13_yard 77 = .ok (.iload_n 2, 1) := by decide +kernel
theorem dX13_yard_78 : decode cX13_yard 78 = .ok (.bipush 12, 2) := by decide +kernel
theorem dX13_yard_80 : decode cX13_yard 80 = .ok (.if_icmp .ge 21, 3) := by decide +kernel
theorem dX13_yard_83 : decode cX13_yard 83 = .ok (.aload_n 0, 1) := by decide +kernel
theorem dX13_yard_84 : decode cX13_yard 84 = .ok (.getfield 25, 3) := by decide +kernel
theorem dX13_yard_87 : decode cX13_yard 87 = .ok (.iload_n 2, 1) := by decide +kernel
theorem dX13_yard_88 : decode cX13_yard 88 = .ok (.aload_n 0, 1) := by decide +kernel
theorem dX13_yard_89 : decode cX13_yard 89 = .ok (.getfield 29, 3) := by decide +kernel
theorem dX13_yard_92 : decode cX13_yard 92 = .ok (.iload_n 2, 1) := by decide +kernel
theorem dX13_yard_93 : decode cX13_yard 93 = .ok (.laload, 1) := by decide +kernel
theorem dX13_yard_94 : decode cX13_yard 94 = .ok (.lastore, 1) := by decide +kernel
theorem dX13_yard_95 : decode cX13_yard 95 = .ok (.iinc 2 1, 3) := by decide +kernel
theorem dX13_yard_98 : decode cX13_yard 98 = .ok (.goto (-21), 3) := by decide +kernel
theorem dX13_yard_101 : decode cX13_yard 101 = .ok (.aload_n 0, 1) := by decide +kernel
theorem dX13_yard_102 : decode cX13_yard 102 = .ok (.getfield 13, 3) := by decide +kernel
theorem dX13_yard_105 : decode cX13_yard 105 = .ok (.sipush 200, 3) := by decide +kernel
theorem dX13_yard_108 : decode cX13_yard 108 = .ok (.iconst 0, 1) := by decide +kernel
theorem dX13_yard_109 : decode cX13_yard 109 = .ok (.iastore, 1) := by decide +kernel
theorem dX13_yard_110 : decode cX13_yard 110 = .ok (.aload_n 0, 1) := by decide +kernel
theorem dX13_yard_111 : decode cX13_yard 111 = .ok (.getfield 13, 3) := by decide +kernel
theorem dX13_yard_114 : decode cX13_yard 114 = .ok (.sipush 540, 3) := by decide +kernel
theorem dX13_yard_117 : decode cX13_yard 117 = .ok (.iconst 0, 1) := by decide +kernel
theorem dX13_yard_118 : decode cX13_yard 118 = .ok (.iastore, 1) := by decide +kernel
theorem dX13_yard_119 : decode cX13_yard 119 = .ok (.iload_n 1, 1) := by decide +kernel
theorem dX13_yard_120 : decode cX13_yard 120 = .ok (.ireturn, 1) := by decide +kernel
theorem mKd_0 {n L : Nat} {t : zTk} (h : mKd n L t = 0) : t.1 = 0 ∧ n ≤ L := by
  unfold mKd at h
  by_cases h0 : t.1 = 0
  · rw [if_pos h0] at h
    by_cases hL : L < n
    · rw [if_pos hL] at h
      exact absurd h (by decide)
    · exact ⟨h0, by omega⟩
  · rw [if_neg h0] at h
    exact absurd h h0
theorem mKd_0i {n L : Nat} {t : zTk} (h : t.1 = 0 ∧ n ≤ L) : mKd n L t = 0 := by
  unfold mKd
  rw [if_pos h.1, if_neg (by omega)]
set_option maxRecDepth 100000 in
theorem lp_myard {l : Launch} {dd : Nat} {Po : zPo} {K0 : zK} {h0 : List va_E} {Xo : zK → Prop} {Gc : zG → Prop} (mo : Nat) (e : Nat → Nat) (n L : Nat) (bt : Nat → Nat) (nw : Nat → Int32) (nm : Nat → Int64) (g0 : Nat → Int32) (hd : 7 ≤ dd) (hn : n ≤ 740) (hL : L = 700) (hbt : ∀ j, bt j < 256) (h3 : g0 3 = nI n) (h4 : g0 4 = nI L) (G : zPy × Nat) (hP : ∀ r K', (¬ G.1.1 = 0 ∧ r = some (.int (-1 - nI G.1.2.1.2.1)) ∧ ∃ g w rf rn, mFr [5, 6, 7, 8, 9, 10, 11, 13, 23] g0 g ∧ g 10 = nI G.1.1 ∧ K' = [(mo, .inr (11, fMo e g w)), ((e 1), .inl (0, 740, .inl (nF bt))), ((e 15), .inl (0, 200, .inl rf)), ((e 19), .inl (2, 12, .inr (.inl rn))), ((e 14), .inl (0, 800, .inl nw)), ((e 18), .inl (2, 12, .inr (.inl nm)))]) → Po r K') (hk : G.1.1 = 0 → ∀ g w rf rn, mFr [5, 6, 7, 8, 9, 13, 23] g0 g → mTk n L G.1.2.1 g w → rdR G.1.2.2.2 g rf rn → zS (l, mX13_yard, dd, Po, K0, h0, Xo, Gc) 0 0 48 [(0, .ref mo), (1, .int (nI G.2))] [] [(mo, .inr (11, fMo e g w)), ((e 1), .inl (0, 740, .inl (nF bt))), ((e 15), .inl (0, 200, .inl rf)), ((e 19), .inl (2, 12, .inr (.inl rn))), ((e 14), .inl (0, 800, .inl nw)), ((e 18), .inl (2, 12, .inr (.inl nm)))]) : ∀ (q i : Nat) (t : zTk) (tk : Nat) (D : zYd) (g : Nat → Int32) (w : Int64) (rf : Nat → Int32) (rn : Nat → Int64), i + q = 700 → (t.1 = 0 ∨ (i ≤ t.2.1 ∧ t.2.1 < min n L)) → mFr [5, 6, 7, 8, 9, 13, 23] g0 g → mTk n L t g w → tW n L t → tOK t → yI D → rdR D g rf rn → pLines bt n L q t tk D i = G → zS (l, mX13_yard, dd, Po, K0, h0, Xo, Gc) 0 0 21 [(0, .ref mo), (1, .int (nI i))] [] [(mo, .inr (11, fMo e g w)), ((e 1), .inl (0, 740, .inl (nF bt))), ((e 15), .inl (0, 200, .inl rf)), ((e 19), .inl (2, 12, .inr (.inl rn))), ((e 14), .inl (0, 800, .inl nw)), ((e 18), .inl (2, 12, .inr (.inl nm)))] := by
  have hL : L ≤ 740 := by omega
  intro q
  induction q with
  | zero =>
    intro i t tk D g w rf rn hi hM hfr hT hW hO hD hRd hG
    have hz0 : t.1 = 0 := hM.resolve_right (fun h => by have := Nat.min_le_right n L; omega)
    refine zs_aload_n dX13_yard_21 rfl rfl ?_
    refine zs_get 0 dX13_yard_22 zf_RX13_170 rfl (v := .int (g 7)) rfl ?_
    refine zs_as (y := nI (mKd n L t)) (mTk_7 hT) ?_
    have hkd := mKd_4 (n := n) (L := L) hO.1
    refine zs_if_eq (tgt := 48) dX13_yard_25 (by decide) (fun c_1 => ?_) (fun c_1 => ?_)
    · have c_1 : (mKd n L t) = 0 := by have hc := c_1; rw [show (0 : Int32) = nI 0 from rfl] at hc; rw [nI_eq' (by omega) (by omega)] at hc; exact hc
      have hend := mKd_0 c_1
      have eG : G = ((0, t, tk, D), i) := by rw [← hG, pLs_e hend.1 hend.2]
      subst eG
      refine zs_lv [0, 1] rfl ?_
      exact hk rfl g w rf rn hfr hT hRd
    · have c_1 : ¬ ((mKd n L t) = 0) := by have hc := c_1; rw [show (0 : Int32) = nI 0 from rfl] at hc; rw [nI_eq' (by omega) (by omega)] at hc; exact hc
      have hst : ¬ (t.1 = 0 ∧ n ≤ L) := fun h => c_1 (mKd_0i h)
      refine zs_aload_n dX13_yard_28 rfl rfl ?_
      have hI := pLine_I (L := L) (tk := tk) hbt hn hO hD
      refine zs_callV (M := mX13_readLine) (As := []) (st := []) (Kc := [(mo, .inr (11, fMo e g w)), ((e 1), .inl (0, 740, .inl (nF bt))), ((e 15), .inl (0, 200, .inl rf)), ((e 19), .inl (2, 12, .inr (.inl rn)))]) (Kr := [((e 14), .inl (0, 800, .inl nw)), ((e 18), .inl (2, 12, .inr (.inl nm)))]) [0, 1, 2, 3] [4, 5] 0 dX13_yard_29 zl_RX13_285 kX13_readLine rfl rfl rfl rfl rfl (by decide) rfl rfl (show dd - 1 + 1 ≤ dd by omega) (Nat.zero_le _) (Nat.zero_le _) (Nat.le_of_ble_eq_true rfl) (s_mReadLine l (dd - 1) mo e g w n L bt t tk D rf rn (by omega) hn hL hbt ((hfr 3 (by decide)).trans h3) ((hfr 4 (by decide)).trans h4) hT hW hO hD hRd) (fun r K1 hr => ?_)
      rcases hr with ⟨hq, rfl, g1, w1, rf1, rn1, fr1, hT1, hW1, hRd1, rfl⟩ | ⟨hq, rfl, g1, w1, rf1, rn1, fr1, h10, h11, rfl⟩
      · refine zs_K (K' := [(mo, .inr (11, fMo e g1 w1)), ((e 1), .inl (0, 740, .inl (nF bt))), ((e 15), .inl (0, 200, .inl rf1)), ((e 19), .inl (2, 12, .inr (.inl rn1))), ((e 14), .inl (0, 800, .inl nw)), ((e 18), .inl (2, 12, .inr (.inl nm)))]) [2, 3, 4, 5, 0, 1] rfl (by decide) ?_
        refine zs_if_ne (tgt := 42) dX13_yard_32 (by decide) (fun c_2 => ?_) (fun c_2 => (by first | exact absurd c_2 (by decide) | exact absurd (by decide) c_2 : False).elim)
        refine zs_iinc (v := (nI (i + 1))) (lv' := [(1, .int (nI (i + 1))), (0, .ref mo)]) dX13_yard_42 rfl (nI_add _ 1) (Nat.le_of_ble_eq_true rfl) rfl ?_
        refine zs_goto (tgt := 21) dX13_yard_45 (by decide) ?_
        exact absurd hq (by rw [mLn_0 hO hW hz0]; exact (show ¬ 1 = 0 by decide))
      · refine zs_K (K' := [(mo, .inr (11, fMo e g1 w1)), ((e 1), .inl (0, 740, .inl (nF bt))), ((e 15), .inl (0, 200, .inl rf1)), ((e 19), .inl (2, 12, .inr (.inl rn1))), ((e 14), .inl (0, 800, .inl nw)), ((e 18), .inl (2, 12, .inr (.inl nm)))]) [2, 3, 4, 5, 0, 1] rfl (by decide) ?_
        refine zs_if_ne (tgt := 42) dX13_yard_32 (by decide) (fun c_3 => (by first | exact absurd c_3 (by decide) | exact absurd (by decide) c_3 : False).elim) (fun c_3 => ?_)
        refine zs_iconst (v := (-1)) dX13_yard_35 (by decide) ?_
        refine zs_aload_n dX13_yard_36 rfl rfl ?_
        refine zs_get 0 dX13_yard_37 zf_RX13_213 rfl (v := .int (g1 11)) rfl ?_
        refine zs_as (y := nI (mLn bt n L t tk D).2.1.2.1) h11 ?_
        refine zs_isub dX13_yard_40 ?_
        have eF : G.1.1 = (mLn bt n L t tk D).1 ∧ G.1.2.1 = (mLn bt n L t tk D).2.1 := by
          rw [← hG]
          by_cases h0 : t.1 = 0
          · have hLn : L < n := Nat.lt_of_not_le (fun hle => hst ⟨h0, hle⟩)
            rw [pLs_x h0 hLn, mLn_0 hO hW h0]
            exact ⟨rfl, rfl⟩
          · exact absurd hz0 h0
        exact zs_iret dX13_yard_41 rfl (hP _ _ ⟨by rw [eF.1]; exact hq, by rw [eF.2, ← h11], g1, w1, rf1, rn1, mFr_t hfr fr1 (by decide) (by decide), by rw [eF.1]; exact h10, rfl⟩)
  | succ q ih =>
    intro i t tk D g w rf rn hi hM hfr hT hW hO hD hRd hG
    refine zs_aload_n dX13_yard_21 rfl rfl ?_
    refine zs_get 0 dX13_yard_22 zf_RX13_170 rfl (v := .int (g 7)) rfl ?_
    refine zs_as (y := nI (mKd n L t)) (mTk_7 hT) ?_
    have hkd := mKd_4 (n := n) (L := L) hO.1
    refine zs_if_eq (tgt := 48) dX13_yard_25 (by decide) (fun c_1 => ?_) (fun c_1 => ?_)
    · have c_1 : (mKd n L t) = 0 := by have hc := c_1; rw [show (0 : Int32) = nI 0 from rfl] at hc; rw [nI_eq' (by omega) (by omega)] at hc; exact hc
      have hend := mKd_0 c_1
      have eG : G = ((0, t, tk, D), i) := by rw [← hG, pLs_e hend.1 hend.2]
      subst eG
      refine zs_lv [0, 1] rfl ?_
      exact hk rfl g w rf rn hfr hT hRd
    · have c_1 : ¬ ((mKd n L t) = 0) := by have hc := c_1; rw [show (0 : Int32) = nI 0 from rfl] at hc; rw [nI_eq' (by omega) (by omega)] at hc; exact hc
      have hst : ¬ (t.1 = 0 ∧ n ≤ L) := fun h => c_1 (mKd_0i h)
      refine zs_aload_n dX13_yard_28 rfl rfl ?_
      have hI := pLine_I (L := L) (tk := tk) hbt hn hO hD
      refine zs_callV (M := mX13_readLine) (As := []) (st := []) (Kc := [(mo, .inr (11, fMo e g w)), ((e 1), .inl (0, 740, .inl (nF bt))), ((e 15), .inl (0, 200, .inl rf)), ((e 19), .inl (2, 12, .inr (.inl rn)))]) (Kr := [((e 14), .inl (0, 800, .inl nw)), ((e 18), .inl (2, 12, .inr (.inl nm)))]) [0, 1, 2, 3] [4, 5] 0 dX13_yard_29 zl_RX13_285 kX13_readLine rfl rfl rfl rfl rfl (by decide) rfl rfl (show dd - 1 + 1 ≤ dd by omega) (Nat.zero_le _) (Nat.zero_le _) (Nat.le_of_ble_eq_true rfl) (s_mReadLine l (dd - 1) mo e g w n L bt t tk D rf rn (by omega) hn hL hbt ((hfr 3 (by decide)).trans h3) ((hfr 4 (by decide)).trans h4) hT hW hO hD hRd) (fun r K1 hr => ?_)
      rcases hr with ⟨hq, rfl, g1, w1, rf1, rn1, fr1, hT1, hW1, hRd1, rfl⟩ | ⟨hq, rfl, g1, w1, rf1, rn1, fr1, h10, h11, rfl⟩
      · refine zs_K (K' := [(mo, .inr (11, fMo e g1 w1)), ((e 1), .inl (0, 740, .inl (nF bt))), ((e 15), .inl (0, 200, .inl rf1)), ((e 19), .inl (2, 12, .inr (.inl rn1))), ((e 14), .inl (0, 800, .inl nw)), ((e 18), .inl (2, 12, .inr (.inl nm)))]) [2, 3, 4, 5, 0, 1] rfl (by decide) ?_
        refine zs_if_ne (tgt := 42) dX13_yard_32 (by decide) (fun c_2 => ?_) (fun c_2 => (by first | exact absurd c_2 (by decide) | exact absurd (by decide) c_2 : False).elim)
        refine zs_iinc (v := (nI (i + 1))) (lv' := [(1, .int (nI (i + 1))), (0, .ref mo)]) dX13_yard_42 rfl (nI_add _ 1) (Nat.le_of_ble_eq_true rfl) rfl ?_
        refine zs_goto (tgt := 21) dX13_yard_45 (by decide) ?_
        by_cases h0 : t.1 = 0
        · exact absurd hq (by rw [mLn_0 hO hW h0]; exact (show ¬ 1 = 0 by decide))
        · have hs := pLs_s (q := q) (i := i) h0 hq
          have hqm := qM_line (b := bt) (n := n) (L := L) (tk := tk) (D := D) hbt hn (Nat.le_refl t.2.2.1) hs.2.1
          have hne : ¬ (pLine bt n L t tk D).2.1.1 = 0 := fun hz => by have h59 := hs.2.2.1; rw [tAt, hz] at h59; exact absurd h59 (by rw [decide_eq_false (by decide)]; simp)
          have hm2 := hqm.2.resolve_left hne
          have hm1 := hM.resolve_left h0
          have hle := hO.2.2.2.1
          refine zs_lv [1, 0] rfl ?_
          refine ih (i + 1) (mLn bt n L t tk D).2.1 (mLn bt n L t tk D).2.2.1 (mLn bt n L t tk D).2.2.2 g1 w1 rf1 rn1 (by omega) ?_ (mFr_t hfr fr1 (by decide) (by decide)) hT1 hW1 (by rw [hs.2.2.2.1]; exact nxt_OK hbt hn) (by rw [hs.2.2.2.2]; exact hI.2) hRd1 (hs.1.symm.trans hG)
          rw [hs.2.2.2.1]
          by_cases hz : (nxt bt n L (pLine bt n L t tk D).2.1).1 = 0
          · exact Or.inl hz
          · have hb := nxt_b hz
            exact Or.inr ⟨by omega, hb.2.2⟩
      · refine zs_K (K' := [(mo, .inr (11, fMo e g1 w1)), ((e 1), .inl (0, 740, .inl (nF bt))), ((e 15), .inl (0, 200, .inl rf1)), ((e 19), .inl (2, 12, .inr (.inl rn1))), ((e 14), .inl (0, 800, .inl nw)), ((e 18), .inl (2, 12, .inr (.inl nm)))]) [2, 3, 4, 5, 0, 1] rfl (by decide) ?_
        refine zs_if_ne (tgt := 42) dX13_yard_32 (by decide) (fun c_3 => (by first | exact absurd c_3 (by decide) | exact absurd (by decide) c_3 : False).elim) (fun c_3 => ?_)
        refine zs_iconst (v := (-1)) dX13_yard_35 (by decide) ?_
        refine zs_aload_n dX13_yard_36 rfl rfl ?_
        refine zs_get 0 dX13_yard_37 zf_RX13_213 rfl (v := .int (g1 11)) rfl ?_
        refine zs_as (y := nI (mLn bt n L t tk D).2.1.2.1) h11 ?_
        refine zs_isub dX13_yard_40 ?_
        have eF : G.1.1 = (mLn bt n L t tk D).1 ∧ G.1.2.1 = (mLn bt n L t tk D).2.1 := by
          rw [← hG]
          by_cases h0 : t.1 = 0
          · have hLn : L < n := Nat.lt_of_not_le (fun hle => hst ⟨h0, hle⟩)
            rw [pLs_x h0 hLn, mLn_0 hO hW h0]
            exact ⟨rfl, rfl⟩
          · exact pLs_f h0 hq
        exact zs_iret dX13_yard_41 rfl (hP _ _ ⟨by rw [eF.1]; exact hq, by rw [eF.2, ← h11], g1, w1, rf1, rn1, mFr_t hfr fr1 (by decide) (by decide), by rw [eF.1]; exact h10, rfl⟩)
