/-! ===== the reference: line() ===== -/
theorem dX13_line_0 : decode cX13_line 0 = .ok (.aload_n 0, 1) := by decide +kernel
theorem dX13_line_1 : decode cX13_line 1 = .ok (.iconst 0, 1) := by decide +kernel
theorem dX13_line_2 : decode cX13_line 2 = .ok (.putfield 148, 3) := by decide +kernel
theorem dX13_line_5 : decode cX13_line 5 = .ok (.aload_n 0, 1) := by decide +kernel
theorem dX13_line_6 : decode cX13_line 6 = .ok (.invokevirtual 232, 3) := by decide +kernel
theorem dX13_line_9 : decode cX13_line 9 = .ok (.iload_n 1, 1) := by decide +kernel
theorem dX13_line_10 : decode cX13_line 10 = .ok (.iconst 0, 1) := by decide +kernel
theorem dX13_line_11 : decode cX13_line 11 = .ok (.sipush 3600, 3) := by decide +kernel
theorem dX13_line_14 : decode cX13_line 14 = .ok (.invokestatic 219, 3) := by decide +kernel
theorem dX13_line_17 : decode cX13_line 17 = .ok (.ifCond .ne 5, 3) := by decide +kernel
theorem dX13_line_20 : decode cX13_line 20 = .ok (.iconst (-1), 1) := by decide +kernel
theorem dX13_line_21 : decode cX13_line 21 = .ok (.ireturn, 1) := by decide +kernel
theorem dX13_line_22 : decode cX13_line 22 = .ok (.iconst 0, 1) := by decide +kernel
theorem dX13_line_23 : decode cX13_line 23 = .ok (.istore_n 2, 1) := by decide +kernel
theorem dX13_line_24 : decode cX13_line 24 = .ok (.iload_n 2, 1) := by decide +kernel
theorem dX13_line_25 : decode cX13_line 25 = .ok (.aload_n 0, 1) := by decide +kernel
theorem dX13_line_26 : decode cX13_line 26 = .ok (.invokevirtual 288, 3) := by decide +kernel
theorem dX13_line_29 : decode cX13_line 29 = .ok (.if_icmp .ge 16, 3) := by decide +kernel
theorem dX13_line_32 : decode cX13_line 32 = .ok (.aload_n 0, 1) := by decide +kernel
theorem dX13_line_33 : decode cX13_line 33 = .ok (.getfield 39, 3) := by decide +kernel
theorem dX13_line_36 : decode cX13_line 36 = .ok (.iload_n 2, 1) := by decide +kernel
theorem dX13_line_37 : decode cX13_line 37 = .ok (.iload_n 2, 1) := by decide +kernel
theorem dX13_line_38 : decode cX13_line 38 = .ok (.iastore, 1) := by decide +kernel
theorem dX13_line_39 : decode cX13_line 39 = .ok (.iinc 2 1, 3) := by decide +kernel
theorem dX13_line_42 : decode cX13_line 42 = .ok (.goto (-18), 3) := by decide +kernel
theorem dX13_line_45 : decode cX13_line 45 = .ok (.iconst 2, 1) := by decide +kernel
theorem dX13_line_46 : decode cX13_line 46 = .ok (.istore_n 2, 1) := by decide +kernel
theorem dX13_line_47 : decode cX13_line 47 = .ok (.iload_n 2, 1) := by decide +kernel
theorem dX13_line_48 : decode cX13_line 48 = .ok (.aload_n 0, 1) := by decide +kernel
theorem dX13_line_49 : decode cX13_line 49 = .ok (.invokevirtual 288, 3) := by decide +kernel
theorem dX13_line_52 : decode cX13_line 52 = .ok (.if_icmp .gt 42, 3) := by decide +kernel
theorem dX13_line_55 : decode cX13_line 55 = .ok (.aload_n 0, 1) := by decide +kernel
theorem dX13_line_56 : decode cX13_line 56 = .ok (.iconst 1, 1) := by decide +kernel
theorem dX13_line_57 : decode cX13_line 57 = .ok (.iload_n 2, 1) := by decide +kernel
theorem dX13_line_58 : decode cX13_line 58 = .ok (.aload_n 0, 1) := by decide +kernel
theorem dX13_line_59 : decode cX13_line 59 = .ok (.getfield 13, 3) := by decide +kernel
theorem dX13_line_62 : decode cX13_line 62 = .ok (.iconst 5, 1) := by decide +kernel
theorem dX13_line_63 : decode cX13_line 63 = .ok (.iaload, 1) := by decide +kernel
theorem dX13_line_64 : decode cX13_line 64 = .ok (.iload_n 1, 1) := by decide +kernel
theorem dX13_line_65 : decode cX13_line 65 = .ok (.invokevirtual 376, 3) := by decide +kernel
theorem dX13_line_68 : decode cX13_line 68 = .ok (.istore_n 3, 1) := by decide +kernel
theorem dX13_line_69 : decode cX13_line 69 = .ok (.iload_n 3, 1) := by decide +kernel
theorem dX13_line_70 : decode cX13_line 70 = .ok (.aload_n 0, 1) := by decide +kernel
theorem dX13_line_71 : decode cX13_line 71 = .ok (.iconst 2, 1) := by decide +kernel
theorem dX13_line_72 : decode cX13_line 72 = .ok (.iload_n 2, 1) := by decide +kernel
theorem dX13_line_73 : decode cX13_line 73 = .ok (.aload_n 0, 1) := by decide +kernel
theorem dX13_line_74 : decode cX13_line 74 = .ok (.getfield 13, 3) := by decide +kernel
theorem dX13_line_77 : decode cX13_line 77 = .ok (.iconst 5, 1) := by decide +kernel
theorem dX13_line_78 : decode cX13_line 78 = .ok (.iaload, 1) := by decide +kernel
theorem dX13_line_79 : decode cX13_line 79 = .ok (.iload_n 1, 1) := by decide +kernel
theorem dX13_line_80 : decode cX13_line 80 = .ok (.invokevirtual 376, 3) := by decide +kernel
theorem dX13_line_83 : decode cX13_line 83 = .ok (.if_icmp .le 5, 3) := by decide +kernel
theorem dX13_line_86 : decode cX13_line 86 = .ok (.iload_n 2, 1) := by decide +kernel
theorem dX13_line_87 : decode cX13_line 87 = .ok (.ireturn, 1) := by decide +kernel
theorem dX13_line_88 : decode cX13_line 88 = .ok (.iinc 2 1, 3) := by decide +kernel
theorem dX13_line_91 : decode cX13_line 91 = .ok (.goto (-44), 3) := by decide +kernel
theorem dX13_line_94 : decode cX13_line 94 = .ok (.iconst (-1), 1) := by decide +kernel
theorem dX13_line_95 : decode cX13_line 95 = .ok (.ireturn, 1) := by decide +kernel
theorem mg_tl {g g2 : Nat → Int32} {s : Nat → Nat} (h : mFr [22] (mg g s) g2) : mFr [22, 33, 35, 36, 37, 38, 39, 40, 41, 42] g g2 := fun j hj => by
  have hj2 : ¬ (33 ≤ j ∧ j ≤ 42 ∧ j ≠ 34) := fun q => by
    simp only [List.mem_cons, List.not_mem_nil, or_false] at hj
    omega
  refine (h j (fun q => hj ?_)).trans (if_neg hj2)
  have q : j ∈ [22] := q
  simp only [List.mem_cons, List.not_mem_nil, or_false] at q ⊢
  omega
/-- the yard's own men in their order -/
abbrev tId (D : zYd) : Nat → Nat := fun j => if j < D.1 0 then j else 12
theorem tId_I {D : zYd} (h : yI D) : yI (yT D (tId D)) := yT_I h (fun j => by
  show (if j < D.1 0 then j else 12) ≤ 12
  have := h.1
  split <;> omega)
theorem tId_T {D : zYd} {M : zRs} (h : ∀ p, p < D.1 0 → M.2 24 p = p) : tT (yT D (tId D)) M := fun p _ h2 => by
  have h2 : (if p < D.1 0 then p else 12) < 12 := h2
  show M.2 24 p = if p < D.1 0 then p else 12
  by_cases q : p < D.1 0
  · rw [if_pos q]; exact h p q
  · rw [if_neg q] at h2; exact absurd h2 (by decide)
theorem tId_b {D : zYd} {M : zRs} (h0 : D.1 0 ≤ 12) (h : tT (yT D (tId D)) M) : ∀ p, p < D.1 0 → M.2 24 p = p := fun p hp => by
  have e : tId D p = p := if_pos hp
  have h1 := h p (by omega) (show tId D p < 12 by rw [e]; omega)
  exact h1.trans e
theorem fId_p {p : Nat} (h : p < 12) : fId p = p := nCl_s h
set_option maxRecDepth 100000 in
theorem lp_mli1 {l : Launch} {dd : Nat} {Po : zPo} {K0 : zK} {h0 : List va_E} {Xo : zK → Prop} {Gc : zG → Prop} (mo : Nat) (e : Nat → Nat) (g : Nat → Int32) (w : Int64) (nw : Nat → Int32) (D : zYd) (M : zRs) (k : Nat) (hd : 1 ≤ dd) (hR : yR D nw) (hD : yI D)
    (hk : zS (l, mX13_line, dd, Po, K0, h0, Xo, Gc) 0 0 45 [(0, .ref mo), (1, .int (nI k))] [] [(mo, .inr (11, fMo e (mg g M.1) w)), ((e 14), .inl (0, 800, .inl nw)), ((e 24), .inl (0, 12, .inl (nF (nCl (fun i => i) (M.2 24) (D.1 0))))), ((e 25), .inl (0, 12, .inl (nF (M.2 25)))), ((e 26), .inl (0, 12, .inl (nF (M.2 26)))), ((e 27), .inl (0, 12, .inl (nF (M.2 27)))), ((e 28), .inl (0, 360, .inl (nF (M.2 28)))), ((e 29), .inl (0, 12, .inl (nF (M.2 29)))), ((e 30), .inl (0, 12, .inl (nF (M.2 30)))), ((e 31), .inl (0, 30, .inl (nF (M.2 31)))), ((e 32), .inl (0, 12, .inl (nF (M.2 32))))]) :
    ∀ (m i : Nat) , i + m = D.1 0 → zS (l, mX13_line, dd, Po, K0, h0, Xo, Gc) 0 0 24 [(0, .ref mo), (1, .int (nI k)), (2, .int (nI i))] [] [(mo, .inr (11, fMo e (mg g M.1) w)), ((e 14), .inl (0, 800, .inl nw)), ((e 24), .inl (0, 12, .inl (nF (nCl (fun i => i) (M.2 24) i)))), ((e 25), .inl (0, 12, .inl (nF (M.2 25)))), ((e 26), .inl (0, 12, .inl (nF (M.2 26)))), ((e 27), .inl (0, 12, .inl (nF (M.2 27)))), ((e 28), .inl (0, 360, .inl (nF (M.2 28)))), ((e 29), .inl (0, 12, .inl (nF (M.2 29)))), ((e 30), .inl (0, 12, .inl (nF (M.2 30)))), ((e 31), .inl (0, 30, .inl (nF (M.2 31)))), ((e 32), .inl (0, 12, .inl (nF (M.2 32))))] := by
  intro m
  induction m with
  | zero =>
    intro i hi
    have hD0 := hD.1
    refine zs_iload_n dX13_line_24 rfl ?_
    refine zs_aload_n dX13_line_25 rfl rfl ?_
    refine zs_callV (M := mX13_men) (As := []) (st := [.int (nI i)]) (Kc := [(mo, .inr (11, fMo e (mg g M.1) w)), ((e 14), .inl (0, 800, .inl nw))]) (Kr := [((e 24), .inl (0, 12, .inl (nF (nCl (fun i => i) (M.2 24) i)))), ((e 25), .inl (0, 12, .inl (nF (M.2 25)))), ((e 26), .inl (0, 12, .inl (nF (M.2 26)))), ((e 27), .inl (0, 12, .inl (nF (M.2 27)))), ((e 28), .inl (0, 360, .inl (nF (M.2 28)))), ((e 29), .inl (0, 12, .inl (nF (M.2 29)))), ((e 30), .inl (0, 12, .inl (nF (M.2 30)))), ((e 31), .inl (0, 30, .inl (nF (M.2 31)))), ((e 32), .inl (0, 12, .inl (nF (M.2 32))))]) [0, 1] [2, 3, 4, 5, 6, 7, 8, 9, 10] 0 dX13_line_26 zl_RX13_288 kX13_men rfl rfl rfl rfl rfl (by decide) rfl rfl (show dd - 1 + 1 ≤ dd by omega) (Nat.zero_le _) (Nat.zero_le _) (Nat.le_of_ble_eq_true rfl) (s_mMen l (dd - 1) mo e (mg g M.1) w nw D hR) (fun r K1 hr => ?_)
    obtain ⟨rfl, rfl⟩ := hr
    refine zs_K (K' := [(mo, .inr (11, fMo e (mg g M.1) w)), ((e 14), .inl (0, 800, .inl nw)), ((e 24), .inl (0, 12, .inl (nF (nCl (fun i => i) (M.2 24) i)))), ((e 25), .inl (0, 12, .inl (nF (M.2 25)))), ((e 26), .inl (0, 12, .inl (nF (M.2 26)))), ((e 27), .inl (0, 12, .inl (nF (M.2 27)))), ((e 28), .inl (0, 360, .inl (nF (M.2 28)))), ((e 29), .inl (0, 12, .inl (nF (M.2 29)))), ((e 30), .inl (0, 12, .inl (nF (M.2 30)))), ((e 31), .inl (0, 30, .inl (nF (M.2 31)))), ((e 32), .inl (0, 12, .inl (nF (M.2 32))))]) [9, 10, 0, 1, 2, 3, 4, 5, 6, 7, 8] rfl (by decide) ?_
    refine zs_icmp_ge (tgt := 45) dX13_line_29 (by decide) (fun c_1 => ?_) (fun c_1 => (c_1 (by rw [show i = D.1 0 by omega]; exact Int32.le_refl _) : False).elim)
    rw [show i = D.1 0 by omega]
    refine zs_lv [0, 1] rfl ?_
    exact hk
  | succ m ih =>
    intro i hi
    have hD0 := hD.1
    refine zs_iload_n dX13_line_24 rfl ?_
    refine zs_aload_n dX13_line_25 rfl rfl ?_
    refine zs_callV (M := mX13_men) (As := []) (st := [.int (nI i)]) (Kc := [(mo, .inr (11, fMo e (mg g M.1) w)), ((e 14), .inl (0, 800, .inl nw))]) (Kr := [((e 24), .inl (0, 12, .inl (nF (nCl (fun i => i) (M.2 24) i)))), ((e 25), .inl (0, 12, .inl (nF (M.2 25)))), ((e 26), .inl (0, 12, .inl (nF (M.2 26)))), ((e 27), .inl (0, 12, .inl (nF (M.2 27)))), ((e 28), .inl (0, 360, .inl (nF (M.2 28)))), ((e 29), .inl (0, 12, .inl (nF (M.2 29)))), ((e 30), .inl (0, 12, .inl (nF (M.2 30)))), ((e 31), .inl (0, 30, .inl (nF (M.2 31)))), ((e 32), .inl (0, 12, .inl (nF (M.2 32))))]) [0, 1] [2, 3, 4, 5, 6, 7, 8, 9, 10] 0 dX13_line_26 zl_RX13_288 kX13_men rfl rfl rfl rfl rfl (by decide) rfl rfl (show dd - 1 + 1 ≤ dd by omega) (Nat.zero_le _) (Nat.zero_le _) (Nat.le_of_ble_eq_true rfl) (s_mMen l (dd - 1) mo e (mg g M.1) w nw D hR) (fun r K1 hr => ?_)
    obtain ⟨rfl, rfl⟩ := hr
    refine zs_K (K' := [(mo, .inr (11, fMo e (mg g M.1) w)), ((e 14), .inl (0, 800, .inl nw)), ((e 24), .inl (0, 12, .inl (nF (nCl (fun i => i) (M.2 24) i)))), ((e 25), .inl (0, 12, .inl (nF (M.2 25)))), ((e 26), .inl (0, 12, .inl (nF (M.2 26)))), ((e 27), .inl (0, 12, .inl (nF (M.2 27)))), ((e 28), .inl (0, 360, .inl (nF (M.2 28)))), ((e 29), .inl (0, 12, .inl (nF (M.2 29)))), ((e 30), .inl (0, 12, .inl (nF (M.2 30)))), ((e 31), .inl (0, 30, .inl (nF (M.2 31)))), ((e 32), .inl (0, 12, .inl (nF (M.2 32))))]) [9, 10, 0, 1, 2, 3, 4, 5, 6, 7, 8] rfl (by decide) ?_
    refine zs_icmp_ge (tgt := 45) dX13_line_29 (by decide) (fun c_1 => (nI_ge (show i < D.1 0 by omega) (by omega) c_1 : False).elim) (fun c_1 => ?_)
    refine zs_aload_n dX13_line_32 rfl rfl ?_
    refine zs_get 0 dX13_line_33 zf_RX13_39 rfl (v := .ref (e 24)) rfl ?_
    refine zs_iload_n dX13_line_36 rfl ?_
    refine zs_iload_n dX13_line_37 rfl ?_
    refine zs_iast 2 dX13_line_38 rfl (vp_in_nI (by omega) (by omega)) ?_
    rw [nI_c (n := i) (by omega), nF_u]
    rw [nCl_u (new := fun i => i) (old := M.2 24) (k := i) rfl]
    show zS _ _ _ _ _ _ [(mo, .inr (11, fMo e (mg g M.1) w)), ((e 14), .inl (0, 800, .inl nw)), ((e 24), .inl (0, 12, .inl (nF (nCl (fun i => i) (M.2 24) (i + 1))))), ((e 25), .inl (0, 12, .inl (nF (M.2 25)))), ((e 26), .inl (0, 12, .inl (nF (M.2 26)))), ((e 27), .inl (0, 12, .inl (nF (M.2 27)))), ((e 28), .inl (0, 360, .inl (nF (M.2 28)))), ((e 29), .inl (0, 12, .inl (nF (M.2 29)))), ((e 30), .inl (0, 12, .inl (nF (M.2 30)))), ((e 31), .inl (0, 30, .inl (nF (M.2 31)))), ((e 32), .inl (0, 12, .inl (nF (M.2 32))))]
    refine zs_iinc (v := (nI (i + 1))) (lv' := [(2, .int (nI (i + 1))), (0, .ref mo), (1, .int (nI k))]) dX13_line_39 rfl (nI_add _ 1) (Nat.le_of_ble_eq_true rfl) rfl ?_
    refine zs_goto (tgt := 24) dX13_line_42 (by decide) ?_
    refine zs_lv [1, 2, 0] rfl ?_
    exact ih (i + 1) (by omega)
set_option maxRecDepth 100000 in
theorem lp_mli {l : Launch} {dd : Nat} {Po : zPo} {K0 : zK} {h0 : List va_E} {Xo : zK → Prop} {Gc : zG → Prop} (mo : Nat) (e : Nat → Nat) (w : Int64) (nw : Nat → Int32) (D : zYd) (k : Nat) (g0 : Nat → Int32) (hd : 7 ≤ dd) (hR : yR D nw) (hD : yI D) (hk36 : k ≤ 3600) (W : Int32) (hP : ∀ r K', (r = some (.int W) ∧ ∃ (g' : Nat → Int32) (M' : zRs), mFr [34] g0 g' ∧ K' = kTm mo e g' w nw M') → Po r K') : ∀ (q n : Nat) (ro ru : zRs) (g : Nat → Int32) (M : zRs), (q = 0 → D.1 0 < n) → (0 < q → n + q = D.1 0 + 1) → 2 ≤ n → cW ro → rI ru → (∀ p, p < D.1 0 → M.2 24 p = p) → mFr [34] g0 g → (pLn D fId k q n ro ru).1 = W → n ≤ 1000 → zS (l, mX13_line, dd, Po, K0, h0, Xo, Gc) 0 0 47 [(0, .ref mo), (1, .int (nI k)), (2, .int (nI n))] [] [(mo, .inr (11, fMo e (mg g M.1) w)), ((e 14), .inl (0, 800, .inl nw)), ((e 24), .inl (0, 12, .inl (nF (M.2 24)))), ((e 25), .inl (0, 12, .inl (nF (M.2 25)))), ((e 26), .inl (0, 12, .inl (nF (M.2 26)))), ((e 27), .inl (0, 12, .inl (nF (M.2 27)))), ((e 28), .inl (0, 360, .inl (nF (M.2 28)))), ((e 29), .inl (0, 12, .inl (nF (M.2 29)))), ((e 30), .inl (0, 12, .inl (nF (M.2 30)))), ((e 31), .inl (0, 30, .inl (nF (M.2 31)))), ((e 32), .inl (0, 12, .inl (nF (M.2 32))))] := by
  have hD0 := hD.1
  intro q
  induction q with
  | zero =>
    intro n ro ru g M hq0 hq1 hn2 hW hI hmen hfr hWv hnk
    have hq0 := hq0 rfl
    refine zs_iload_n dX13_line_47 rfl ?_
    refine zs_aload_n dX13_line_48 rfl rfl ?_
    refine zs_callV (M := mX13_men) (As := []) (st := [.int (nI n)]) (Kc := [(mo, .inr (11, fMo e (mg g M.1) w)), ((e 14), .inl (0, 800, .inl nw))]) (Kr := [((e 24), .inl (0, 12, .inl (nF (M.2 24)))), ((e 25), .inl (0, 12, .inl (nF (M.2 25)))), ((e 26), .inl (0, 12, .inl (nF (M.2 26)))), ((e 27), .inl (0, 12, .inl (nF (M.2 27)))), ((e 28), .inl (0, 360, .inl (nF (M.2 28)))), ((e 29), .inl (0, 12, .inl (nF (M.2 29)))), ((e 30), .inl (0, 12, .inl (nF (M.2 30)))), ((e 31), .inl (0, 30, .inl (nF (M.2 31)))), ((e 32), .inl (0, 12, .inl (nF (M.2 32))))]) [0, 1] [2, 3, 4, 5, 6, 7, 8, 9, 10] 0 dX13_line_49 zl_RX13_288 kX13_men rfl rfl rfl rfl rfl (by decide) rfl rfl (show dd - 1 + 1 ≤ dd by omega) (Nat.zero_le _) (Nat.zero_le _) (Nat.le_of_ble_eq_true rfl) (s_mMen l (dd - 1) mo e (mg g M.1) w nw D hR) (fun r K1 hr => ?_)
    obtain ⟨rfl, rfl⟩ := hr
    refine zs_K (K' := [(mo, .inr (11, fMo e (mg g M.1) w)), ((e 14), .inl (0, 800, .inl nw)), ((e 24), .inl (0, 12, .inl (nF (M.2 24)))), ((e 25), .inl (0, 12, .inl (nF (M.2 25)))), ((e 26), .inl (0, 12, .inl (nF (M.2 26)))), ((e 27), .inl (0, 12, .inl (nF (M.2 27)))), ((e 28), .inl (0, 360, .inl (nF (M.2 28)))), ((e 29), .inl (0, 12, .inl (nF (M.2 29)))), ((e 30), .inl (0, 12, .inl (nF (M.2 30)))), ((e 31), .inl (0, 30, .inl (nF (M.2 31)))), ((e 32), .inl (0, 12, .inl (nF (M.2 32))))]) [9, 10, 0, 1, 2, 3, 4, 5, 6, 7, 8] rfl (by decide) ?_
    refine zs_icmp_gt (tgt := 94) dX13_line_52 (by decide) (fun c_1 => ?_) (fun c_1 => (c_1 (by rw [nI_lt' (by omega) (by omega)]; omega) : False).elim)
    refine zs_iconst (v := (-1)) dX13_line_94 (by decide) ?_
    exact zs_iret dX13_line_95 rfl (hP _ _ ⟨by rw [← hWv]; rfl, g, M, hfr, rfl⟩)
  | succ q ih =>
    intro n ro ru g M hq0 hq1 hn2 hW hI hmen hfr hWv hnk
    have hq1 := hq1 (by omega)
    refine zs_iload_n dX13_line_47 rfl ?_
    refine zs_aload_n dX13_line_48 rfl rfl ?_
    refine zs_callV (M := mX13_men) (As := []) (st := [.int (nI n)]) (Kc := [(mo, .inr (11, fMo e (mg g M.1) w)), ((e 14), .inl (0, 800, .inl nw))]) (Kr := [((e 24), .inl (0, 12, .inl (nF (M.2 24)))), ((e 25), .inl (0, 12, .inl (nF (M.2 25)))), ((e 26), .inl (0, 12, .inl (nF (M.2 26)))), ((e 27), .inl (0, 12, .inl (nF (M.2 27)))), ((e 28), .inl (0, 360, .inl (nF (M.2 28)))), ((e 29), .inl (0, 12, .inl (nF (M.2 29)))), ((e 30), .inl (0, 12, .inl (nF (M.2 30)))), ((e 31), .inl (0, 30, .inl (nF (M.2 31)))), ((e 32), .inl (0, 12, .inl (nF (M.2 32))))]) [0, 1] [2, 3, 4, 5, 6, 7, 8, 9, 10] 0 dX13_line_49 zl_RX13_288 kX13_men rfl rfl rfl rfl rfl (by decide) rfl rfl (show dd - 1 + 1 ≤ dd by omega) (Nat.zero_le _) (Nat.zero_le _) (Nat.le_of_ble_eq_true rfl) (s_mMen l (dd - 1) mo e (mg g M.1) w nw D hR) (fun r K1 hr => ?_)
    obtain ⟨rfl, rfl⟩ := hr
    refine zs_K (K' := [(mo, .inr (11, fMo e (mg g M.1) w)), ((e 14), .inl (0, 800, .inl nw)), ((e 24), .inl (0, 12, .inl (nF (M.2 24)))), ((e 25), .inl (0, 12, .inl (nF (M.2 25)))), ((e 26), .inl (0, 12, .inl (nF (M.2 26)))), ((e 27), .inl (0, 12, .inl (nF (M.2 27)))), ((e 28), .inl (0, 360, .inl (nF (M.2 28)))), ((e 29), .inl (0, 12, .inl (nF (M.2 29)))), ((e 30), .inl (0, 12, .inl (nF (M.2 30)))), ((e 31), .inl (0, 30, .inl (nF (M.2 31)))), ((e 32), .inl (0, 12, .inl (nF (M.2 32))))]) [9, 10, 0, 1, 2, 3, 4, 5, 6, 7, 8] rfl (by decide) ?_
    refine zs_icmp_gt (tgt := 94) dX13_line_52 (by decide) (fun c_1 => (absurd c_1 (by rw [nI_lt' (by omega) (by omega)]; omega) : False).elim) (fun c_1 => ?_)
    refine zs_aload_n dX13_line_55 rfl rfl ?_
    refine zs_iconst (v := nI 1) dX13_line_56 (by decide) ?_
    refine zs_iload_n dX13_line_57 rfl ?_
    refine zs_aload_n dX13_line_58 rfl rfl ?_
    refine zs_get 0 dX13_line_59 zf_RX13_13 rfl (v := .ref (e 14)) rfl ?_
    refine zs_iconst (v := nI 5) dX13_line_62 (by decide) ?_
    refine zs_iald 1 dX13_line_63 rfl (vp_in_nI (by omega) (by omega)) ?_
    refine zs_as (y := nI (D.1 9)) (by rw [nI_c (n := 5) (by omega)]; exact hR.2.2.2.2.2.1) ?_
    refine zs_iload_n dX13_line_64 rfl ?_
    refine zs_callV (M := mX13_throwsIn) (As := [.int (nI 1), .int (nI n), .int (nI (D.1 9)), .int (nI k)]) (st := []) (Kc := [(mo, .inr (11, fMo e (mg g M.1) w)), ((e 14), .inl (0, 800, .inl nw)), ((e 24), .inl (0, 12, .inl (nF (M.2 24)))), ((e 25), .inl (0, 12, .inl (nF (M.2 25)))), ((e 26), .inl (0, 12, .inl (nF (M.2 26)))), ((e 27), .inl (0, 12, .inl (nF (M.2 27)))), ((e 28), .inl (0, 360, .inl (nF (M.2 28)))), ((e 29), .inl (0, 12, .inl (nF (M.2 29)))), ((e 30), .inl (0, 12, .inl (nF (M.2 30)))), ((e 31), .inl (0, 30, .inl (nF (M.2 31)))), ((e 32), .inl (0, 12, .inl (nF (M.2 32))))]) (Kr := []) [0, 1, 2, 3, 4, 5, 6, 7, 8, 9, 10] [] 0 dX13_line_65 zl_RX13_376 kX13_throwsIn rfl rfl rfl rfl rfl (by decide) rfl rfl (show dd - 1 + 1 ≤ dd by omega) (Nat.zero_le _) (Nat.zero_le _) (Nat.le_of_ble_eq_true rfl) (s_tThrow1 l (dd - 1) mo e g w nw (yT D (tId D)) M n (D.1 9) k (cBeg D.1 D.2.2.2.1 fId 0 n (D.1 9) ro) (D.1 6) hD.2.2.2.2.2.2.2.2.2.2.1.2 (rwB_W hD (by omega) (fun i hi => by rw [fId_p (by omega)]; omega) hD.2.2.2.2.2.2.2.2.2.2.2.2.2.1 (Nat.zero_le _) hW) (by omega) hR (tId_I hD) (by omega) hk36 (tR_beg (D := (yT D (tId D))) (M := tmWl M (D.1 9)) (tId_I hD) (by omega) (fun p hp => ⟨by show M.2 24 p = fId (0 + p); rw [Nat.zero_add, fId_p (by omega)]; exact hmen p (by omega), by show fId (0 + p) < D.1 0; rw [Nat.zero_add, fId_p (by omega)]; omega⟩) rfl (tId_T (M := tmWl M (D.1 9)) hmen))) (fun r K1 hr => ?_)
    obtain ⟨rfl, M2, hM2, rfl⟩ := hr
    refine zs_K (K' := [(mo, .inr (11, fMo e (mg (upd g 34 (nI 1)) M2.1) w)), ((e 14), .inl (0, 800, .inl nw)), ((e 24), .inl (0, 12, .inl (nF (M2.2 24)))), ((e 25), .inl (0, 12, .inl (nF (M2.2 25)))), ((e 26), .inl (0, 12, .inl (nF (M2.2 26)))), ((e 27), .inl (0, 12, .inl (nF (M2.2 27)))), ((e 28), .inl (0, 360, .inl (nF (M2.2 28)))), ((e 29), .inl (0, 12, .inl (nF (M2.2 29)))), ((e 30), .inl (0, 12, .inl (nF (M2.2 30)))), ((e 31), .inl (0, 30, .inl (nF (M2.2 31)))), ((e 32), .inl (0, 12, .inl (nF (M2.2 32))))]) [0, 1, 2, 3, 4, 5, 6, 7, 8, 9, 10] rfl (by decide) ?_
    have hmen2 := tId_b hD0 hM2.2.2.2.2
    refine zs_istore_n (lv' := [(3, .int (nI ((rwB D fId n (D.1 9) k ro).1 15))), (0, .ref mo), (1, .int (nI k)), (2, .int (nI n))]) dX13_line_68 (Nat.le_of_ble_eq_true rfl) rfl ?_
    refine zs_iload_n dX13_line_69 rfl ?_
    refine zs_aload_n dX13_line_70 rfl rfl ?_
    refine zs_iconst (v := nI 2) dX13_line_71 (by decide) ?_
    refine zs_iload_n dX13_line_72 rfl ?_
    refine zs_aload_n dX13_line_73 rfl rfl ?_
    refine zs_get 0 dX13_line_74 zf_RX13_13 rfl (v := .ref (e 14)) rfl ?_
    refine zs_iconst (v := nI 5) dX13_line_77 (by decide) ?_
    refine zs_iald 1 dX13_line_78 rfl (vp_in_nI (by omega) (by omega)) ?_
    refine zs_as (y := nI (D.1 9)) (by rw [nI_c (n := 5) (by omega)]; exact hR.2.2.2.2.2.1) ?_
    refine zs_iload_n dX13_line_79 rfl ?_
    refine zs_callV (M := mX13_throwsIn) (As := [.int (nI 2), .int (nI n), .int (nI (D.1 9)), .int (nI k)]) (st := [.int (nI ((rwB D fId n (D.1 9) k ro).1 15))]) (Kc := [(mo, .inr (11, fMo e (mg (upd g 34 (nI 1)) M2.1) w)), ((e 14), .inl (0, 800, .inl nw)), ((e 24), .inl (0, 12, .inl (nF (M2.2 24)))), ((e 25), .inl (0, 12, .inl (nF (M2.2 25)))), ((e 26), .inl (0, 12, .inl (nF (M2.2 26)))), ((e 27), .inl (0, 12, .inl (nF (M2.2 27)))), ((e 28), .inl (0, 360, .inl (nF (M2.2 28)))), ((e 29), .inl (0, 12, .inl (nF (M2.2 29)))), ((e 30), .inl (0, 12, .inl (nF (M2.2 30)))), ((e 31), .inl (0, 30, .inl (nF (M2.2 31)))), ((e 32), .inl (0, 12, .inl (nF (M2.2 32))))]) (Kr := []) [0, 1, 2, 3, 4, 5, 6, 7, 8, 9, 10] [] 0 dX13_line_80 zl_RX13_376 kX13_throwsIn rfl rfl rfl rfl rfl (by decide) rfl rfl (show dd - 1 + 1 ≤ dd by omega) (Nat.zero_le _) (Nat.zero_le _) (Nat.le_of_ble_eq_true rfl) (s_tThrow2 l (dd - 1) mo e (upd g 34 (nI 1)) w nw (yT D (tId D)) M2 n (D.1 9) k (rBeg D.1 D.2.2.2.2.1 fId 0 n (D.1 9) ru) (by omega) hR (tId_I hD) (by omega) hk36 (uR_beg (D := (yT D (tId D))) (M := tmWl M2 (D.1 9)) (tId_I hD) (by omega) (fun p hp => ⟨by show M2.2 24 p = fId (0 + p); rw [Nat.zero_add, fId_p (by omega)]; exact hmen2 p (by omega), by show fId (0 + p) < D.1 0; rw [Nat.zero_add, fId_p (by omega)]; omega⟩) rfl hD.2.2.2.2.2.2.2.2.2.2.2.2.2.1 hI (tId_T (M := tmWl M2 (D.1 9)) hmen2))) (fun r K1 hr => ?_)
    obtain ⟨rfl, M3, hM3, rfl⟩ := hr
    refine zs_K (K' := [(mo, .inr (11, fMo e (mg (upd (upd g 34 (nI 1)) 34 (nI 2)) M3.1) w)), ((e 14), .inl (0, 800, .inl nw)), ((e 24), .inl (0, 12, .inl (nF (M3.2 24)))), ((e 25), .inl (0, 12, .inl (nF (M3.2 25)))), ((e 26), .inl (0, 12, .inl (nF (M3.2 26)))), ((e 27), .inl (0, 12, .inl (nF (M3.2 27)))), ((e 28), .inl (0, 360, .inl (nF (M3.2 28)))), ((e 29), .inl (0, 12, .inl (nF (M3.2 29)))), ((e 30), .inl (0, 12, .inl (nF (M3.2 30)))), ((e 31), .inl (0, 30, .inl (nF (M3.2 31)))), ((e 32), .inl (0, 12, .inl (nF (M3.2 32))))]) [0, 1, 2, 3, 4, 5, 6, 7, 8, 9, 10] rfl (by decide) ?_
    have hmen3 := tId_b hD0 hM3.2.2.2.1.2
    refine zs_icmp_le (tgt := 88) dX13_line_83 (by decide) (fun c_2 => ?_) (fun c_2 => ?_)
    · refine zs_iinc (v := (nI (n + 1))) (lv' := [(2, .int (nI (n + 1))), (3, .int (nI ((rwB D fId n (D.1 9) k ro).1 15))), (0, .ref mo), (1, .int (nI k))]) dX13_line_88 rfl (nI_add _ 1) (Nat.le_of_ble_eq_true rfl) rfl ?_
      refine zs_goto (tgt := 47) dX13_line_91 (by decide) ?_
      refine zs_lv [2, 3, 0] rfl ?_
      refine ih (n + 1) (rwB D fId n (D.1 9) k ro) (rnB D fId n k ru) (upd (upd g 34 (nI 1)) 34 (nI 2)) M3 (fun _ => by omega) (fun _ => by omega) (by omega) (rwB_W hD (by omega) (fun i hi => by rw [fId_p (by omega)]; omega) hD.2.2.2.2.2.2.2.2.2.2.2.2.2.1 hk36 hW).1.w (rnB_I hD (by omega) hI) hmen3 (mFr_u (mFr_u hfr (by decide)) (by decide)) ?_ (by omega)
      rw [← hWv, pLn, if_neg (Int32.not_lt.mpr c_2)]
    · refine zs_iload_n dX13_line_86 rfl ?_
      exact zs_iret dX13_line_87 rfl (hP _ _ ⟨by rw [← hWv, pLn, if_pos (Int32.not_le.mp c_2)], (upd (upd g 34 (nI 1)) 34 (nI 2)), M3, mFr_u (mFr_u hfr (by decide)) (by decide), rfl⟩)

set_option maxRecDepth 100000 in
theorem s_mLine (l : Launch) (dd : Nat) (mo : Nat) (e : Nat → Nat) (g : Nat → Int32) (w : Int64) (nw : Nat → Int32) (D : zYd) (M : zRs) (ro ru : zRs) (x : Int32) (hd : 8 ≤ dd) (hR : yR D (mLay g nw)) (hD : yI D) (hb : g 22 = 0 ∨ g 22 = 1) (hW : cW ro) (hI : rI ru) : zSp l mX13_line dd 0 0 [.ref mo, .int x] [(mo, .inr (11, fMo e (mg g M.1) w)), ((e 14), .inl (0, 800, .inl nw)), ((e 24), .inl (0, 12, .inl (nF (M.2 24)))), ((e 25), .inl (0, 12, .inl (nF (M.2 25)))), ((e 26), .inl (0, 12, .inl (nF (M.2 26)))), ((e 27), .inl (0, 12, .inl (nF (M.2 27)))), ((e 28), .inl (0, 360, .inl (nF (M.2 28)))), ((e 29), .inl (0, 12, .inl (nF (M.2 29)))), ((e 30), .inl (0, 12, .inl (nF (M.2 30)))), ((e 31), .inl (0, 30, .inl (nF (M.2 31)))), ((e 32), .inl (0, 12, .inl (nF (M.2 32))))] (fun r K' => (¬ tkT x = true ∧ r = some (.int (-1)) ∧ ∃ (g' : Nat → Int32) (M' : zRs), mFr [0, 22, 33, 34, 35, 36, 37, 38, 39, 40, 41, 42] g g' ∧ g' 0 = nI 0 ∧ g' 22 = 1 ∧ K' = [(mo, .inr (11, fMo e (mg g' M'.1) w)), ((e 14), .inl (0, 800, .inl (mLay g nw))), ((e 24), .inl (0, 12, .inl (nF (M'.2 24)))), ((e 25), .inl (0, 12, .inl (nF (M'.2 25)))), ((e 26), .inl (0, 12, .inl (nF (M'.2 26)))), ((e 27), .inl (0, 12, .inl (nF (M'.2 27)))), ((e 28), .inl (0, 360, .inl (nF (M'.2 28)))), ((e 29), .inl (0, 12, .inl (nF (M'.2 29)))), ((e 30), .inl (0, 12, .inl (nF (M'.2 30)))), ((e 31), .inl (0, 30, .inl (nF (M'.2 31)))), ((e 32), .inl (0, 12, .inl (nF (M'.2 32))))]) ∨ (∃ k, k ≤ 3600 ∧ x = nI k ∧ r = some (.int (pLn D fId k (D.1 0 - 1) 2 ro ru).1) ∧ ∃ (g' : Nat → Int32) (M' : zRs), mFr [0, 22, 33, 34, 35, 36, 37, 38, 39, 40, 41, 42] g g' ∧ g' 0 = nI 0 ∧ g' 22 = 1 ∧ K' = [(mo, .inr (11, fMo e (mg g' M'.1) w)), ((e 14), .inl (0, 800, .inl (mLay g nw))), ((e 24), .inl (0, 12, .inl (nF (M'.2 24)))), ((e 25), .inl (0, 12, .inl (nF (M'.2 25)))), ((e 26), .inl (0, 12, .inl (nF (M'.2 26)))), ((e 27), .inl (0, 12, .inl (nF (M'.2 27)))), ((e 28), .inl (0, 360, .inl (nF (M'.2 28)))), ((e 29), .inl (0, 12, .inl (nF (M'.2 29)))), ((e 30), .inl (0, 12, .inl (nF (M'.2 30)))), ((e 31), .inl (0, 30, .inl (nF (M'.2 31)))), ((e 32), .inl (0, 12, .inl (nF (M'.2 32))))])) := by
  refine zSp.of (by decide) (Nat.le_of_ble_eq_true rfl) (fun h0 => ?_)
  show zS _ 0 0 0 [(0, .ref mo), (1, .int x)] [] [(mo, .inr (11, fMo e (mg g M.1) w)), ((e 14), .inl (0, 800, .inl nw)), ((e 24), .inl (0, 12, .inl (nF (M.2 24)))), ((e 25), .inl (0, 12, .inl (nF (M.2 25)))), ((e 26), .inl (0, 12, .inl (nF (M.2 26)))), ((e 27), .inl (0, 12, .inl (nF (M.2 27)))), ((e 28), .inl (0, 360, .inl (nF (M.2 28)))), ((e 29), .inl (0, 12, .inl (nF (M.2 29)))), ((e 30), .inl (0, 12, .inl (nF (M.2 30)))), ((e 31), .inl (0, 30, .inl (nF (M.2 31)))), ((e 32), .inl (0, 12, .inl (nF (M.2 32))))]
  refine zs_aload_n dX13_line_0 rfl rfl ?_
  refine zs_iconst (v := nI 0) dX13_line_1 (by decide) ?_
  refine zs_put 0 dX13_line_2 zf_RX13_148 rfl (Nat.le_of_ble_eq_true rfl) (zPv_i _) ?_
  show zS _ _ _ _ _ _ [(mo, .inr (11, fMo e (mg (upd g 0 (nI 0)) M.1) w)), ((e 14), .inl (0, 800, .inl nw)), ((e 24), .inl (0, 12, .inl (nF (M.2 24)))), ((e 25), .inl (0, 12, .inl (nF (M.2 25)))), ((e 26), .inl (0, 12, .inl (nF (M.2 26)))), ((e 27), .inl (0, 12, .inl (nF (M.2 27)))), ((e 28), .inl (0, 360, .inl (nF (M.2 28)))), ((e 29), .inl (0, 12, .inl (nF (M.2 29)))), ((e 30), .inl (0, 12, .inl (nF (M.2 30)))), ((e 31), .inl (0, 30, .inl (nF (M.2 31)))), ((e 32), .inl (0, 12, .inl (nF (M.2 32))))]
  refine zs_aload_n dX13_line_5 rfl rfl ?_
  refine zs_callV (M := mX13_lay) (As := []) (st := []) (Kc := [(mo, .inr (11, fMo e (mg (upd g 0 (nI 0)) M.1) w)), ((e 14), .inl (0, 800, .inl nw))]) (Kr := [((e 24), .inl (0, 12, .inl (nF (M.2 24)))), ((e 25), .inl (0, 12, .inl (nF (M.2 25)))), ((e 26), .inl (0, 12, .inl (nF (M.2 26)))), ((e 27), .inl (0, 12, .inl (nF (M.2 27)))), ((e 28), .inl (0, 360, .inl (nF (M.2 28)))), ((e 29), .inl (0, 12, .inl (nF (M.2 29)))), ((e 30), .inl (0, 12, .inl (nF (M.2 30)))), ((e 31), .inl (0, 30, .inl (nF (M.2 31)))), ((e 32), .inl (0, 12, .inl (nF (M.2 32))))]) [0, 1] [2, 3, 4, 5, 6, 7, 8, 9, 10] 0 dX13_line_6 zl_RX13_232 kX13_lay rfl rfl rfl rfl rfl (by decide) rfl rfl (show dd - 1 + 1 ≤ dd by omega) (Nat.zero_le _) (Nat.zero_le _) (Nat.le_of_ble_eq_true rfl) (s_mLay l (dd - 1) mo e (mg (upd g 0 (nI 0)) M.1) w nw (by omega) hb) (fun r K1 hr => ?_)
  obtain ⟨rfl, g2, hfr2, h22, rfl⟩ := hr
  refine zs_K (K' := [(mo, .inr (11, fMo e g2 w)), ((e 14), .inl (0, 800, .inl (mLay g nw))), ((e 24), .inl (0, 12, .inl (nF (M.2 24)))), ((e 25), .inl (0, 12, .inl (nF (M.2 25)))), ((e 26), .inl (0, 12, .inl (nF (M.2 26)))), ((e 27), .inl (0, 12, .inl (nF (M.2 27)))), ((e 28), .inl (0, 360, .inl (nF (M.2 28)))), ((e 29), .inl (0, 12, .inl (nF (M.2 29)))), ((e 30), .inl (0, 12, .inl (nF (M.2 30)))), ((e 31), .inl (0, 30, .inl (nF (M.2 31)))), ((e 32), .inl (0, 12, .inl (nF (M.2 32))))]) [9, 10, 0, 1, 2, 3, 4, 5, 6, 7, 8] rfl (by decide) ?_
  rw [mg_22 hfr2]
  show zS _ _ _ _ _ _ [(mo, .inr (11, fMo e (mg g2 M.1) w)), ((e 14), .inl (0, 800, .inl (mLay g nw))), ((e 24), .inl (0, 12, .inl (nF (M.2 24)))), ((e 25), .inl (0, 12, .inl (nF (M.2 25)))), ((e 26), .inl (0, 12, .inl (nF (M.2 26)))), ((e 27), .inl (0, 12, .inl (nF (M.2 27)))), ((e 28), .inl (0, 360, .inl (nF (M.2 28)))), ((e 29), .inl (0, 12, .inl (nF (M.2 29)))), ((e 30), .inl (0, 12, .inl (nF (M.2 30)))), ((e 31), .inl (0, 30, .inl (nF (M.2 31)))), ((e 32), .inl (0, 12, .inl (nF (M.2 32))))]
  refine zs_iload_n dX13_line_9 rfl ?_
  refine zs_iconst (v := nI 0) dX13_line_10 (by decide) ?_
  refine zs_sipush (v := nI 3600) dX13_line_11 (by decide) ?_
  refine zs_callS (M := mX13_isIn) (As := [.int x, .int (nI 0), .int (nI 3600)]) (st := []) (Kc := []) (Kr := [(mo, .inr (11, fMo e (mg g2 M.1) w)), ((e 14), .inl (0, 800, .inl (mLay g nw))), ((e 24), .inl (0, 12, .inl (nF (M.2 24)))), ((e 25), .inl (0, 12, .inl (nF (M.2 25)))), ((e 26), .inl (0, 12, .inl (nF (M.2 26)))), ((e 27), .inl (0, 12, .inl (nF (M.2 27)))), ((e 28), .inl (0, 360, .inl (nF (M.2 28)))), ((e 29), .inl (0, 12, .inl (nF (M.2 29)))), ((e 30), .inl (0, 12, .inl (nF (M.2 30)))), ((e 31), .inl (0, 30, .inl (nF (M.2 31)))), ((e 32), .inl (0, 12, .inl (nF (M.2 32))))]) [] [0, 1, 2, 3, 4, 5, 6, 7, 8, 9, 10] dX13_line_14 zl_RX13_219 kX13_isIn rfl rfl rfl rfl rfl (by decide) (show dd - 1 + 1 ≤ dd by omega) (Nat.zero_le _) (Nat.zero_le _) (Nat.le_of_ble_eq_true rfl) (s_mIsIn l (dd - 1) x (nI 0) (nI 3600)) (fun r K1 hr => ?_)
  obtain ⟨rfl, rfl⟩ := hr
  refine zs_K (K' := [(mo, .inr (11, fMo e (mg g2 M.1) w)), ((e 14), .inl (0, 800, .inl (mLay g nw))), ((e 24), .inl (0, 12, .inl (nF (M.2 24)))), ((e 25), .inl (0, 12, .inl (nF (M.2 25)))), ((e 26), .inl (0, 12, .inl (nF (M.2 26)))), ((e 27), .inl (0, 12, .inl (nF (M.2 27)))), ((e 28), .inl (0, 360, .inl (nF (M.2 28)))), ((e 29), .inl (0, 12, .inl (nF (M.2 29)))), ((e 30), .inl (0, 12, .inl (nF (M.2 30)))), ((e 31), .inl (0, 30, .inl (nF (M.2 31)))), ((e 32), .inl (0, 12, .inl (nF (M.2 32))))]) [0, 1, 2, 3, 4, 5, 6, 7, 8, 9, 10] rfl (by decide) ?_
  refine zs_if_ne (tgt := 22) dX13_line_17 (by decide) (fun c_1 => ?_) (fun c_1 => ?_)
  · have htk : tkT x = true := bI_t c_1
    obtain ⟨k, hk, rfl⟩ := tkT_k htk
    refine zs_iconst (v := nI 0) dX13_line_22 (by decide) ?_
    refine zs_istore_n (lv' := [(2, .int (nI 0)), (0, .ref mo), (1, .int (nI k))]) dX13_line_23 (Nat.le_of_ble_eq_true rfl) rfl ?_
    refine zs_lv [1, 2, 0] rfl ?_
    refine zs_eq (K' := [(mo, .inr (11, fMo e (mg g2 M.1) w)), ((e 14), .inl (0, 800, .inl (mLay g nw))), ((e 24), .inl (0, 12, .inl (nF (nCl (fun i => i) (M.2 24) 0)))), ((e 25), .inl (0, 12, .inl (nF (M.2 25)))), ((e 26), .inl (0, 12, .inl (nF (M.2 26)))), ((e 27), .inl (0, 12, .inl (nF (M.2 27)))), ((e 28), .inl (0, 360, .inl (nF (M.2 28)))), ((e 29), .inl (0, 12, .inl (nF (M.2 29)))), ((e 30), .inl (0, 12, .inl (nF (M.2 30)))), ((e 31), .inl (0, 30, .inl (nF (M.2 31)))), ((e 32), .inl (0, 12, .inl (nF (M.2 32))))]) (by rw [nCl_0]) ?_
    refine lp_mli1 mo e g2 w (mLay g nw) D M k (by omega) hR hD ?_ (D.1 0) 0 (Nat.zero_add _)
    refine zs_iconst (v := nI 2) dX13_line_45 (by decide) ?_
    refine zs_istore_n (lv' := [(2, .int (nI 2)), (0, .ref mo), (1, .int (nI k))]) dX13_line_46 (Nat.le_of_ble_eq_true rfl) rfl ?_
    refine zs_lv [1, 2, 0] rfl ?_
    refine lp_mli mo e w (mLay g nw) D k g2 (by omega) hR hD hk (pLn D fId k (D.1 0 - 1) 2 ro ru).1 (fun r K1 h => ?_) (D.1 0 - 1) 2 ro ru g2 (M.1, uu M.2 24 (nCl (fun i => i) (M.2 24) (D.1 0))) (fun _ => by omega) (fun _ => by omega) (Nat.le_refl _) hW hI (fun p hp => (show nCl (fun i => i) (M.2 24) (D.1 0) p = p from nCl_s hp)) mFr_r rfl (by decide)
    obtain ⟨h5, g3, M3, hfr3, h6⟩ := h
    exact Or.inr ⟨k, hk, rfl, h5, g3, M3, mFr_t (mFr_t (mFr_u mFr_r (by decide) : mFr [0] g (upd g 0 (nI 0))) (mg_tl hfr2) (U := [0, 22, 33, 34, 35, 36, 37, 38, 39, 40, 41, 42]) (by decide) (by decide)) hfr3 (by decide) (by decide), (hfr3 0 (by decide)).trans (hfr2 0 (by decide)), (hfr3 22 (by decide)).trans h22, h6⟩
  · have htk : ¬ tkT x = true := fun h => by have h1 : tkT x = false := bI_f c_1; rw [h1] at h; exact absurd h (by decide)
    refine zs_iconst (v := (-1)) dX13_line_20 (by decide) ?_
    exact zs_iret dX13_line_21 rfl (Or.inl ⟨htk, rfl, g2, M, (mFr_t (mFr_u mFr_r (by decide) : mFr [0] g (upd g 0 (nI 0))) (mg_tl hfr2) (U := [0, 22, 33, 34, 35, 36, 37, 38, 39, 40, 41, 42]) (by decide) (by decide)), hfr2 0 (by decide), h22, rfl⟩)
