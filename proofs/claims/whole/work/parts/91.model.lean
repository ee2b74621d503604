/-! ===== the reference: aims ===== -/
theorem pTold_l {C R a : Int32} (h : ¬ 100 ≤ a) : bIn a (nI 0) (nI 3) = pTold C R a := by
  unfold bIn pTold pAc
  rw [if_neg h, decide_eq_false (show ¬ ¬ (-1 : Int32) = -1 by decide), Bool.or_false]
  exact decide_eq_decide.mpr ⟨fun q => ⟨Int32.not_lt.mp q.1, Int32.not_lt.mp q.2⟩, fun q => ⟨Int32.not_lt.mpr q.1, Int32.not_lt.mpr q.2⟩⟩
theorem pTold_p {C R k : Nat} (hC : C ≤ 8) (hR : R ≤ 8) (hk : k < 2147483648) (h : 100 ≤ k) : pTold (nI C) (nI R) (nI k) = (decide ((k - 100) % 10 < C) && decide ((k - 100) / 10 < R)) := by
  have e100 : (100 : Int32) = nI 100 := rfl
  have e10 : (10 : Int32) = nI 10 := rfl
  have h3 : ¬ (0 ≤ nI k ∧ nI k ≤ 3) := fun q => by
    have := (nI_le' hk (by decide)).mp (show nI k ≤ nI 3 from q.2)
    omega
  unfold pTold
  rw [decide_eq_false h3, Bool.false_or]
  unfold pAc
  rw [if_pos (show (100 : Int32) ≤ nI k from (nI_le' (a := 100) (by decide) hk).mpr h), e100, e10, nI_sub h, nI_rem (by omega) (by decide) (by decide), nI_div (by omega) (by decide) (by decide)]
  by_cases h1 : (k - 100) % 10 < C
  · rw [if_neg (fun q => by have := (nI_le' (by omega) (by omega)).mp q; omega), decide_eq_true h1, Bool.true_and]
    by_cases h2 : (k - 100) / 10 < R
    · rw [if_neg (fun q => by have := (nI_le' (by omega) (by omega)).mp q; omega), nI_mul, nI_add, decide_eq_true h2]
      have hm : (k - 100) / 10 * C ≤ 8 * 8 := Nat.mul_le_mul (by omega) hC
      refine decide_eq_true (fun q => ?_)
      have := congrArg Int32.toInt q
      rw [nI_t (by omega)] at this
      have h5 : (-1 : Int32).toInt = -1 := by decide
      omega
    · rw [if_pos ((nI_le' (by omega) (by omega)).mpr (by omega)), decide_eq_false h2]
      rfl
  · rw [if_pos ((nI_le' (by omega) (by omega)).mpr (by omega)), decide_eq_false h1]
    rfl
theorem bI_01 (b : Bool) : bI b = 0 ∨ bI b = 1 := by cases b; exact Or.inl rfl; exact Or.inr rfl
theorem dX13_isAim_0 : decode cX13_isAim 0 = .ok (.iload_n 1, 1) := by decide +kernel
theorem dX13_isAim_1 : decode cX13_isAim 1 = .ok (.bipush 100, 2) := by decide +kernel
theorem dX13_isAim_3 : decode cX13_isAim 3 = .ok (.if_icmp .ge 10, 3) := by decide +kernel
theorem dX13_isAim_6 : decode cX13_isAim 6 = .ok (.iload_n 1, 1) := by decide +kernel
theorem dX13_isAim_7 : decode cX13_isAim 7 = .ok (.iconst 0, 1) := by decide +kernel
theorem dX13_isAim_8 : decode cX13_isAim 8 = .ok (.iconst 3, 1) := by decide +kernel
theorem dX13_isAim_9 : decode cX13_isAim 9 = .ok (.invokestatic 219, 3) := by decide +kernel
theorem dX13_isAim_12 : decode cX13_isAim 12 = .ok (.ireturn, 1) := by decide +kernel
theorem dX13_isAim_13 : decode cX13_isAim 13 = .ok (.iload_n 1, 1) := by decide +kernel
theorem dX13_isAim_14 : decode cX13_isAim 14 = .ok (.sipush 177, 3) := by decide +kernel
theorem dX13_isAim_17 : decode cX13_isAim 17 = .ok (.if_icmp .gt 38, 3) := by decide +kernel
theorem dX13_isAim_20 : decode cX13_isAim 20 = .ok (.iload_n 1, 1) := by decide +kernel
theorem dX13_isAim_21 : decode cX13_isAim 21 = .ok (.bipush 100, 2) := by decide +kernel
theorem dX13_isAim_23 : decode cX13_isAim 23 = .ok (.isub, 1) := by decide +kernel
theorem dX13_isAim_24 : decode cX13_isAim 24 = .ok (.bipush 10, 2) := by decide +kernel
theorem dX13_isAim_26 : decode cX13_isAim 26 = .ok (.irem, 1) := by decide +kernel
theorem dX13_isAim_27 : decode cX13_isAim 27 = .ok (.aload_n 0, 1) := by decide +kernel
theorem dX13_isAim_28 : decode cX13_isAim 28 = .ok (.invokevirtual 298, 3) := by decide +kernel
theorem dX13_isAim_31 : decode cX13_isAim 31 = .ok (.if_icmp .ge 24, 3) := by decide +kernel
theorem dX13_isAim_34 : decode cX13_isAim 34 = .ok (.iload_n 1, 1) := by decide +kernel
theorem dX13_isAim_35 : decode cX13_isAim 35 = .ok (.bipush 100, 2) := by decide +kernel
theorem dX13_isAim_37 : decode cX13_isAim 37 = .ok (.isub, 1) := by decide +kernel
theorem dX13_isAim_38 : decode cX13_isAim 38 = .ok (.bipush 10, 2) := by decide +kernel
theorem dX13_isAim_40 : decode cX13_isAim 40 = .ok (.idiv, 1) := by decide +kernel
theorem dX13_isAim_41 : decode cX13_isAim 41 = .ok (.aload_n 0, 1) := by decide +kernel
theorem dX13_isAim_42 : decode cX13_isAim 42 = .ok (.getfield 13, 3) := by decide +kernel
theorem dX13_isAim_45 : decode cX13_isAim 45 = .ok (.bipush 10, 2) := by decide +kernel
theorem dX13_isAim_47 : decode cX13_isAim 47 = .ok (.iaload, 1) := by decide +kernel
theorem dX13_isAim_48 : decode cX13_isAim 48 = .ok (.if_icmp .ge 7, 3) := by decide +kernel
theorem dX13_isAim_51 : decode cX13_isAim 51 = .ok (.iconst 1, 1) := by decide +kernel
theorem dX13_isAim_52 : decode cX13_isAim 52 = .ok (.goto 4, 3) := by decide +kernel
theorem dX13_isAim_55 : decode cX13_isAim 55 = .ok (.iconst 0, 1) := by decide +kernel
theorem dX13_isAim_56 : decode cX13_isAim 56 = .ok (.ireturn, 1) := by decide +kernel
set_option maxRecDepth 100000 in
theorem s_mIsAimL (l : Launch) (dd : Nat) (mo : Nat) (e : Nat → Nat) (g : Nat → Int32) (w : Int64) (nw : Nat → Int32) (D : zYd) (a : Int32) (hd : 1 ≤ dd) (ha : ¬ nI 100 ≤ a) : zSp l mX13_isAim dd 0 0 [.ref mo, .int a] [(mo, .inr (11, fMo e g w)), ((e 14), .inl (0, 800, .inl nw))] (fun r K' => r = some (.int (bI (pTold (nI (D.1 14)) (nI (D.1 15)) a))) ∧ K' = [(mo, .inr (11, fMo e g w))] ++ [((e 14), .inl (0, 800, .inl nw))]) := by
  refine zSp.of (by decide) (Nat.le_of_ble_eq_true rfl) (fun h0 => ?_)
  show zS _ 0 0 0 [(0, .ref mo), (1, .int a)] [] [(mo, .inr (11, fMo e g w)), ((e 14), .inl (0, 800, .inl nw))]
  refine zs_iload_n dX13_isAim_0 rfl ?_
  refine zs_bipush (v := nI 100) dX13_isAim_1 (by decide) ?_
  refine zs_icmp_ge (tgt := 13) dX13_isAim_3 (by decide) (fun c_1 => (ha c_1 : False).elim) (fun c_1 => ?_)
  refine zs_iload_n dX13_isAim_6 rfl ?_
  refine zs_iconst (v := nI 0) dX13_isAim_7 (by decide) ?_
  refine zs_iconst (v := nI 3) dX13_isAim_8 (by decide) ?_
  refine zs_callS (M := mX13_isIn) (As := [.int a, .int (nI 0), .int (nI 3)]) (st := []) (Kc := []) (Kr := [(mo, .inr (11, fMo e g w)), ((e 14), .inl (0, 800, .inl nw))]) [] [0, 1] dX13_isAim_9 zl_RX13_219 kX13_isIn rfl rfl rfl rfl rfl (by decide) (show dd - 1 + 1 ≤ dd by omega) (Nat.zero_le _) (Nat.zero_le _) (Nat.le_of_ble_eq_true rfl) (s_mIsIn l (dd - 1) a (nI 0) (nI 3)) (fun r K1 hr => ?_)
  obtain ⟨rfl, rfl⟩ := hr
  refine zs_K (K' := [(mo, .inr (11, fMo e g w)), ((e 14), .inl (0, 800, .inl nw))]) [0, 1] rfl (by decide) ?_
  exact zs_zret dX13_isAim_12 rfl (bI_01 _) ⟨by rw [pTold_l ha], rfl⟩
set_option maxRecDepth 100000 in
theorem s_mIsAimP (l : Launch) (dd : Nat) (mo : Nat) (e : Nat → Nat) (g : Nat → Int32) (w : Int64) (nw : Nat → Int32) (D : zYd) (k : Nat) (hd : 1 ≤ dd) (hR : yR D nw) (hD : yI D) (hk : k < 2147483648) (ha : 100 ≤ k) : zSp l mX13_isAim dd 0 0 [.ref mo, .int (nI k)] [(mo, .inr (11, fMo e g w)), ((e 14), .inl (0, 800, .inl nw))] (fun r K' => r = some (.int (bI (pTold (nI (D.1 14)) (nI (D.1 15)) (nI k)))) ∧ K' = [(mo, .inr (11, fMo e g w))] ++ [((e 14), .inl (0, 800, .inl nw))]) := by
  refine zSp.of (by decide) (Nat.le_of_ble_eq_true rfl) (fun h0 => ?_)
  show zS _ 0 0 0 [(0, .ref mo), (1, .int (nI k))] [] [(mo, .inr (11, fMo e g w)), ((e 14), .inl (0, 800, .inl nw))]
  have hC8 := hD.2.1
  have hR8 := hD.2.2.1
  refine zs_iload_n dX13_isAim_0 rfl ?_
  refine zs_bipush (v := nI 100) dX13_isAim_1 (by decide) ?_
  refine zs_icmp_ge (tgt := 13) dX13_isAim_3 (by decide) (fun c_1 => ?_) (fun c_1 => (c_1 ((nI_le' (by omega) (by omega)).mpr ha) : False).elim)
  refine zs_iload_n dX13_isAim_13 rfl ?_
  refine zs_sipush (v := nI 177) dX13_isAim_14 (by decide) ?_
  refine zs_icmp_gt (tgt := 55) dX13_isAim_17 (by decide) (fun c_2 => ?_) (fun c_2 => ?_)
  · have c_2 : 177 < k := by have hc := c_2; rw [nI_lt' (by omega) (by omega)] at hc; exact hc
    refine zs_iconst (v := nI 0) dX13_isAim_55 (by decide) ?_
    exact zs_zret dX13_isAim_56 rfl (by decide) ⟨by rw [pTold_p hD.2.1 hD.2.2.1 hk ha, show (decide ((k - 100) % 10 < D.1 14) && decide ((k - 100) / 10 < D.1 15)) = false from by rw [Bool.and_eq_false_iff, decide_eq_false_iff_not, decide_eq_false_iff_not]; omega] <;> rfl, rfl⟩
  · have c_2 : ¬ (177 < k) := by have hc := c_2; rw [nI_lt' (by omega) (by omega)] at hc; exact hc
    refine zs_iload_n dX13_isAim_20 rfl ?_
    refine zs_bipush (v := nI 100) dX13_isAim_21 (by decide) ?_
    refine zs_isub dX13_isAim_23 ?_
    refine zs_as (y := nI (k - 100)) (nI_sub (by omega)) ?_
    refine zs_bipush (v := nI 10) dX13_isAim_24 (by decide) ?_
    refine zs_irem dX13_isAim_26 (fun hz => by rw [show (0 : Int32) = nI 0 from rfl, nI_eq' (by omega) (by omega)] at hz; omega) ?_
    refine zs_as (y := nI ((k - 100) % 10)) (nI_rem (by omega) (by omega) (by omega)) ?_
    refine zs_aload_n dX13_isAim_27 rfl rfl ?_
    refine zs_callV (M := mX13_columns) (As := []) (st := [.int (nI ((k - 100) % 10))]) (Kc := [(mo, .inr (11, fMo e g w)), ((e 14), .inl (0, 800, .inl nw))]) (Kr := []) [0, 1] [] 0 dX13_isAim_28 zl_RX13_298 kX13_columns rfl rfl rfl rfl rfl (by decide) rfl rfl (show dd - 1 + 1 ≤ dd by omega) (Nat.zero_le _) (Nat.zero_le _) (Nat.le_of_ble_eq_true rfl) (s_mCols l (dd - 1) mo e g w nw D hR) (fun r K1 hr => ?_)
    obtain ⟨rfl, rfl⟩ := hr
    refine zs_K (K' := [(mo, .inr (11, fMo e g w)), ((e 14), .inl (0, 800, .inl nw))]) [0, 1] rfl (by decide) ?_
    refine zs_icmp_ge (tgt := 55) dX13_isAim_31 (by decide) (fun c_3 => ?_) (fun c_3 => ?_)
    · have c_3 : (D.1 14) ≤ ((k - 100) % 10) := by have hc := c_3; rw [nI_le' (by omega) (by omega)] at hc; exact hc
      refine zs_iconst (v := nI 0) dX13_isAim_55 (by decide) ?_
      exact zs_zret dX13_isAim_56 rfl (by decide) ⟨by rw [pTold_p hD.2.1 hD.2.2.1 hk ha, decide_eq_false (show ¬ (k - 100) % 10 < D.1 14 by omega), Bool.false_and] <;> rfl, rfl⟩
    · have c_3 : ¬ ((D.1 14) ≤ ((k - 100) % 10)) := by have hc := c_3; rw [nI_le' (by omega) (by omega)] at hc; exact hc
      refine zs_iload_n dX13_isAim_34 rfl ?_
      refine zs_bipush (v := nI 100) dX13_isAim_35 (by decide) ?_
      refine zs_isub dX13_isAim_37 ?_
      refine zs_as (y := nI (k - 100)) (nI_sub (by omega)) ?_
      refine zs_bipush (v := nI 10) dX13_isAim_38 (by decide) ?_
      refine zs_idiv dX13_isAim_40 (fun hz => by rw [show (0 : Int32) = nI 0 from rfl, nI_eq' (by omega) (by omega)] at hz; omega) ?_
      refine zs_as (y := nI ((k - 100) / 10)) (nI_div (by omega) (by omega) (by omega)) ?_
      refine zs_aload_n dX13_isAim_41 rfl rfl ?_
      refine zs_get 0 dX13_isAim_42 zf_RX13_13 rfl (v := .ref (e 14)) rfl ?_
      refine zs_bipush (v := nI 10) dX13_isAim_45 (by decide) ?_
      refine zs_iald 1 dX13_isAim_47 rfl (vp_in_nI (by omega) (by omega)) ?_
      refine zs_as (y := nI (D.1 15)) (by rw [nI_c (n := 10) (by omega)]; exact hR.2.2.2.2.2.2.2.2.2.2.1) ?_
      refine zs_icmp_ge (tgt := 55) dX13_isAim_48 (by decide) (fun c_4 => ?_) (fun c_4 => ?_)
      · have c_4 : (D.1 15) ≤ ((k - 100) / 10) := by have hc := c_4; rw [nI_le' (by omega) (by omega)] at hc; exact hc
        refine zs_iconst (v := nI 0) dX13_isAim_55 (by decide) ?_
        exact zs_zret dX13_isAim_56 rfl (by decide) ⟨by rw [pTold_p hD.2.1 hD.2.2.1 hk ha, decide_eq_true (show (k - 100) % 10 < D.1 14 by omega), decide_eq_false (show ¬ (k - 100) / 10 < D.1 15 by omega), Bool.and_false] <;> rfl, rfl⟩
      · have c_4 : ¬ ((D.1 15) ≤ ((k - 100) / 10)) := by have hc := c_4; rw [nI_le' (by omega) (by omega)] at hc; exact hc
        refine zs_iconst (v := nI 1) dX13_isAim_51 (by decide) ?_
        refine zs_goto (tgt := 56) dX13_isAim_52 (by decide) ?_
        exact zs_zret dX13_isAim_56 rfl (by decide) ⟨by rw [pTold_p hD.2.1 hD.2.2.1 hk ha, decide_eq_true (show (k - 100) % 10 < D.1 14 by omega), decide_eq_true (show (k - 100) / 10 < D.1 15 by omega), Bool.true_and] <;> rfl, rfl⟩
theorem s_mIsAim (l : Launch) (dd : Nat) (mo : Nat) (e : Nat → Nat) (g : Nat → Int32) (w : Int64) (nw : Nat → Int32) (D : zYd) (a : Int32) (hd : 1 ≤ dd) (hR : yR D nw) (hD : yI D) : zSp l mX13_isAim dd 0 0 [.ref mo, .int a] ([(mo, .inr (11, fMo e g w))] ++ [((e 14), .inl (0, 800, .inl nw))]) (fun r K' => r = some (.int (bI (pTold (nI (D.1 14)) (nI (D.1 15)) a))) ∧ K' = [(mo, .inr (11, fMo e g w))] ++ [((e 14), .inl (0, 800, .inl nw))]) := by
  by_cases h : nI 100 ≤ a
  · obtain ⟨k, hk, rfl⟩ := nI_ex (x := a) (zi_le.mpr (by have h1 := zi_le.mp h; rw [nI_t (by omega)] at h1; rw [Int32.toInt_zero]; omega))
    exact s_mIsAimP l dd mo e g w nw D k hd hR hD hk ((nI_le' (by omega) (by omega)).mp h)
  · exact s_mIsAimL l dd mo e g w nw D a hd h
