/-! ===== the reference: what a token is, its faults, numbers ===== -/
/-- what is true of a token that was read -/
def tW (n L : Nat) (t : zTk) : Prop := (t.1 = 0 → t.2.1 = min n L) ∧ (t.1 = 2 → t.2.2.2.2 = wOf (nI t.2.2.2.1)) ∧ (¬ t.1 = 2 → t.2.2.2.2 = none) ∧ (¬ t.1 = 0 → t.2.2.1 ≤ n)
theorem lTk_W {b : Nat → Nat} {n L q e : Nat} (he : e ≤ n) : tW n L (lTk b q e) := by
  have h0 : ∀ k v w, ¬ k = 0 → ¬ k = 2 → w = none → tW n L (k, q, e, v, w) := fun k v w h1 h2 h3 => ⟨fun h => absurd h h1, fun h => absurd h h2, fun _ => h3, fun _ => he⟩
  unfold lTk
  split
  · split
    · exact h0 _ _ _ (by decide) (by decide) rfl
    · exact ⟨fun h => absurd (show (2 : Nat) = 0 from h) (by decide), fun _ => rfl, fun h => absurd rfl h, fun _ => he⟩
  · split
    · split
      · exact h0 _ _ _ (by decide) (by decide) rfl
      · exact h0 _ _ _ (by decide) (by decide) rfl
    · exact h0 _ _ _ (by decide) (by decide) rfl
theorem lAt_W {b : Nat → Nat} {n L q v : Nat} : tW n L (lAt b n (min n L) q v) := by
  unfold lAt
  split
  · exact ⟨fun _ => rfl, fun h => absurd (show (0 : Nat) = 2 from h) (by decide), fun _ => rfl, fun h => absurd rfl h⟩
  · rename_i hq
    have hqn : q < n := by have := Nat.min_le_left n L; omega
    have hr : lRun b n (n - q) q ≤ n := by have h := (lRun_le (b := b) (n := n) (n - q) q).1; omega
    split
    · exact lTk_W hr
    · split
      · exact lTk_W hr
      · split
        · exact ⟨fun h => absurd (show (4 : Nat) = 0 from h) (by decide), fun h => absurd (show (4 : Nat) = 2 from h) (by decide), fun _ => rfl, fun _ => hqn⟩
        · exact ⟨fun h => absurd (show (1 : Nat) = 0 from h) (by decide), fun h => absurd (show (1 : Nat) = 2 from h) (by decide), fun _ => rfl, fun _ => hqn⟩
theorem nxt_W {b : Nat → Nat} {n L : Nat} {τ : zTk} : tW n L (nxt b n L τ) := lAt_W
/-- the reference's kind -/
def mKd (n L : Nat) (t : zTk) : Nat := if t.1 = 0 then (if L < n then 1 else 0) else t.1
theorem mTk_7 {n L : Nat} {t : zTk} {g : Nat → Int32} {w : Int64} (h : mTk n L t g w) : g 7 = nI (mKd n L t) := by
  unfold mKd
  by_cases h0 : t.1 = 0
  · rw [if_pos h0]
    by_cases hL : L < n
    · rw [if_pos hL]; exact ((h.1 h0).1 hL).1
    · rw [if_neg hL]; exact ((h.1 h0).2 (by omega)).1
  · rw [if_neg h0]; exact (h.2.1 h0).1
theorem mTk_6 {n L : Nat} {t : zTk} {g : Nat → Int32} {w : Int64} (h : mTk n L t g w) (hW : tW n L t) : g 6 = nI t.2.1 := by
  by_cases h0 : t.1 = 0
  · rw [hW.1 h0]
    by_cases hL : L < n
    · rw [Nat.min_eq_right (by omega)]; exact ((h.1 h0).1 hL).2
    · rw [Nat.min_eq_left (by omega)]; exact ((h.1 h0).2 (by omega)).2
  · exact (h.2.1 h0).2.1
theorem mKd_4 {n L : Nat} {t : zTk} (h : t.1 ≤ 4) : mKd n L t ≤ 4 := by
  unfold mKd
  split
  · split <;> decide
  · exact h
theorem mKd_n {n L : Nat} {t : zTk} {k : Nat} (hk : 2 ≤ k) : mKd n L t = k ↔ t.1 = k := by
  unfold mKd
  by_cases h0 : t.1 = 0
  · rw [if_pos h0]
    refine ⟨fun h => ?_, fun h => by omega⟩
    split at h <;> omega
  · rw [if_neg h0]
theorem mTk_f {n L : Nat} {t : zTk} {g g' : Nat → Int32} {w : Int64} (h : mTk n L t g w) (h5 : g' 5 = g 5) (h6 : g' 6 = g 6) (h7 : g' 7 = g 7) (h8 : g' 8 = g 8) (h9 : g' 9 = g 9) : mTk n L t g' w := by
  unfold mTk at h ⊢
  rw [h5, h6, h7, h8, h9]
  exact h
theorem bI_d {p : Prop} {_ : Decidable p} (h : p) : bI (decide p) = 1 := by rw [decide_eq_true h]; rfl
theorem bI_e {p : Prop} {_ : Decidable p} (h : ¬ p) : bI (decide p) = 0 := by rw [decide_eq_false h]; rfl
theorem mPm_s : ∀ j, j < 29 → ∃ k, k < 29 ∧ mPm k = j := by decide +kernel
theorem dX13_isWord_0 : decode cX13_isWord 0 = .ok (.aload_n 0, 1) := by decide +kernel
theorem dX13_isWord_1 : decode cX13_isWord 1 = .ok (.getfield 170, 3) := by decide +kernel
theorem dX13_isWord_4 : decode cX13_isWord 4 = .ok (.iconst 2, 1) := by decide +kernel
theorem dX13_isWord_5 : decode cX13_isWord 5 = .ok (.if_icmp .ne 19, 3) := by decide +kernel
theorem dX13_isWord_8 : decode cX13_isWord 8 = .ok (.aload_n 0, 1) := by decide +kernel
theorem dX13_isWord_9 : decode cX13_isWord 9 = .ok (.getfield 183, 3) := by decide +kernel
theorem dX13_isWord_12 : decode cX13_isWord 12 = .ok (.iload_n 1, 1) := by decide +kernel
theorem dX13_isWord_13 : decode cX13_isWord 13 = .ok (.invokestatic 206, 3) := by decide +kernel
theorem dX13_isWord_16 : decode cX13_isWord 16 = .ok (.lcmp, 1) := by decide +kernel
theorem dX13_isWord_17 : decode cX13_isWord 17 = .ok (.ifCond .ne 7, 3) := by decide +kernel
theorem dX13_isWord_20 : decode cX13_isWord 20 = .ok (.iconst 1, 1) := by decide +kernel
theorem dX13_isWord_21 : decode cX13_isWord 21 = .ok (.goto 4, 3) := by decide +kernel
theorem dX13_isWord_24 : decode cX13_isWord 24 = .ok (.iconst 0, 1) := by decide +kernel
theorem dX13_isWord_25 : decode cX13_isWord 25 = .ok (.ireturn, 1) := by decide +kernel
set_option maxRecDepth 100000 in
theorem s_mIsWord (l : Launch) (dd : Nat) (mo : Nat) (e : Nat → Nat) (g : Nat → Int32) (w : Int64) (n L : Nat) (t : zTk) (k : Nat) (hd : 2 ≤ dd) (hk : k < 29) (hT : mTk n L t g w) (hW : tW n L t) (hO : tOK t) : zSp l mX13_isWord dd 0 0 [.ref mo, .int (nI k)] [(mo, .inr (11, fMo e g w))] (fun r K' => r = some (.int (bI (decide (t.2.2.2.2 = some (mPm k))))) ∧ K' = [(mo, .inr (11, fMo e g w))]) := by
  refine zSp.of (by decide) (Nat.le_of_ble_eq_true rfl) (fun h0 => ?_)
  show zS _ 0 0 0 [(0, .ref mo), (1, .int (nI k))] [] [(mo, .inr (11, fMo e g w))]
  have h14 := hO.1
  have hk4 := mKd_4 (n := n) (L := L) hO.1
  have hwk := (mPm_z k hk).2.2
  refine zs_aload_n dX13_isWord_0 rfl rfl ?_
  refine zs_get 0 dX13_isWord_1 zf_RX13_170 rfl (v := .int (g 7)) rfl ?_
  refine zs_as (y := nI (mKd n L t)) (mTk_7 hT) ?_
  refine zs_iconst (v := nI 2) dX13_isWord_4 (by decide) ?_
  refine zs_icmp_ne (tgt := 24) dX13_isWord_5 (by decide) (fun c_1 => ?_) (fun c_1 => ?_)
  · have c_1 : ¬ ((mKd n L t) = 2) := by have hc := c_1; rw [nI_eq' (by omega) (by omega)] at hc; exact hc
    refine zs_iconst (v := nI 0) dX13_isWord_24 (by decide) ?_
    exact zs_zret dX13_isWord_25 rfl (Or.inl rfl) ⟨by rw [bI_e (show ¬ t.2.2.2.2 = some (mPm k) from fun h => by rw [hW.2.2.1 (fun h2 => c_1 ((mKd_n (by decide)).mpr h2))] at h; exact absurd h (by simp))]; rfl, rfl⟩
  · have c_1 : (mKd n L t) = 2 := by have hc := c_1; rw [nI_eq' (by omega) (by omega)] at hc; exact hc
    have h2 : t.1 = 2 := (mKd_n (by decide)).mp c_1
    have hv4 := hO.2.2.2.2.2.2.1 h2
    refine zs_aload_n dX13_isWord_8 rfl rfl ?_
    refine zs_get 0 dX13_isWord_9 zf_RX13_183 rfl (v := .long w) rfl ?_
    refine zs_iload_n dX13_isWord_12 rfl ?_
    refine zs_callS (M := mX13_wordOf) (As := [.int (nI k)]) (st := [.long w]) (Kc := []) (Kr := [(mo, .inr (11, fMo e g w))]) [] [0] dX13_isWord_13 zl_RX13_206 kX13_wordOf rfl rfl rfl rfl rfl (by decide) (show dd - 1 + 1 ≤ dd by omega) (Nat.zero_le _) (Nat.zero_le _) (Nat.le_of_ble_eq_true rfl) (s_mWordOf l (dd - 1) k (by omega) (by omega)) (fun r K1 hr => ?_)
    obtain ⟨rfl, rfl⟩ := hr
    refine zs_K (K' := [(mo, .inr (11, fMo e g w))]) [0] rfl (by decide) ?_
    refine zs_lcmp dX13_isWord_16 ?_
    refine zs_if_ne (tgt := 24) dX13_isWord_17 (by decide) (fun c_2 => ?_) (fun c_2 => ?_)
    · refine zs_iconst (v := nI 0) dX13_isWord_24 (by decide) ?_
      exact zs_zret dX13_isWord_25 rfl (Or.inl rfl) ⟨by rw [bI_e (show ¬ t.2.2.2.2 = some (mPm k) from fun h => c_2 (lg_cmp_0.mpr (by rw [hT.2.2.2.2 h2, (wOf_k (by omega) hk).mp ((hW.2.1 h2).symm.trans h)])))]; rfl, rfl⟩
    · refine zs_iconst (v := nI 1) dX13_isWord_20 (by decide) ?_
      refine zs_goto (tgt := 25) dX13_isWord_21 (by decide) ?_
      exact zs_zret dX13_isWord_25 rfl (Or.inr rfl) ⟨by rw [bI_d (show t.2.2.2.2 = some (mPm k) from by rw [hW.2.1 h2, (wOf_k (by omega) hk).mpr ((nL_i (by omega) (by omega)).mp ((hT.2.2.2.2 h2).symm.trans (lg_cmp_0.mp c_2)))])]; rfl, rfl⟩
theorem dX13_isSign_0 : decode cX13_isSign 0 = .ok (.aload_n 0, 1) := by decide +kernel
theorem dX13_isSign_1 : decode cX13_isSign 1 = .ok (.getfield 170, 3) := by decide +kernel
theorem dX13_isSign_4 : decode cX13_isSign 4 = .ok (.iconst 4, 1) := by decide +kernel
theorem dX13_isSign_5 : decode cX13_isSign 5 = .ok (.if_icmp .ne 15, 3) := by decide +kernel
theorem dX13_isSign_8 : decode cX13_isSign 8 = .ok (.aload_n 0, 1) := by decide +kernel
theorem dX13_isSign_9 : decode cX13_isSign 9 = .ok (.getfield 180, 3) := by decide +kernel
theorem dX13_isSign_12 : decode cX13_isSign 12 = .ok (.iload_n 1, 1) := by decide +kernel
theorem dX13_isSign_13 : decode cX13_isSign 13 = .ok (.if_icmp .ne 7, 3) := by decide +kernel
theorem dX13_isSign_16 : decode cX13_isSign 16 = .ok (.iconst 1, 1) := by decide +kernel
theorem dX13_isSign_17 : decode cX13_isSign 17 = .ok (.goto 4, 3) := by decide +kernel
theorem dX13_isSign_20 : decode cX13_isSign 20 = .ok (.iconst 0, 1) := by decide +kernel
theorem dX13_isSign_21 : decode cX13_isSign 21 = .ok (.ireturn, 1) := by decide +kernel
set_option maxRecDepth 100000 in
theorem s_mIsSign (l : Launch) (dd : Nat) (mo : Nat) (e : Nat → Nat) (g : Nat → Int32) (w : Int64) (n L : Nat) (t : zTk) (c : Nat) (hT : mTk n L t g w) (hW : tW n L t) (hO : tOK t) (hc : c < 256) : zSp l mX13_isSign dd 0 0 [.ref mo, .int (nI c)] [(mo, .inr (11, fMo e g w))] (fun r K' => r = some (.int (bI (tAt t c))) ∧ K' = [(mo, .inr (11, fMo e g w))]) := by
  refine zSp.of (by decide) (Nat.le_of_ble_eq_true rfl) (fun h0 => ?_)
  show zS _ 0 0 0 [(0, .ref mo), (1, .int (nI c))] [] [(mo, .inr (11, fMo e g w))]
  have h14 := hO.1
  have hk4 := mKd_4 (n := n) (L := L) hO.1
  refine zs_aload_n dX13_isSign_0 rfl rfl ?_
  refine zs_get 0 dX13_isSign_1 zf_RX13_170 rfl (v := .int (g 7)) rfl ?_
  refine zs_as (y := nI (mKd n L t)) (mTk_7 hT) ?_
  refine zs_iconst (v := nI 4) dX13_isSign_4 (by decide) ?_
  refine zs_icmp_ne (tgt := 20) dX13_isSign_5 (by decide) (fun c_1 => ?_) (fun c_1 => ?_)
  · have c_1 : ¬ ((mKd n L t) = 4) := by have hc := c_1; rw [nI_eq' (by omega) (by omega)] at hc; exact hc
    refine zs_iconst (v := nI 0) dX13_isSign_20 (by decide) ?_
    exact zs_zret dX13_isSign_21 rfl (Or.inl rfl) ⟨by rw [tAt, decide_eq_false (fun h4 => c_1 ((mKd_n (by decide)).mpr h4))]; rfl, rfl⟩
  · have c_1 : (mKd n L t) = 4 := by have hc := c_1; rw [nI_eq' (by omega) (by omega)] at hc; exact hc
    have h4 : t.1 = 4 := (mKd_n (by decide)).mp c_1
    have hv := hO.2.2.2.2.2.1 h4
    refine zs_aload_n dX13_isSign_8 rfl rfl ?_
    refine zs_get 0 dX13_isSign_9 zf_RX13_180 rfl (v := .int (g 9)) rfl ?_
    refine zs_as (y := nI t.2.2.2.1) (hT.2.2.2.1 h4) ?_
    refine zs_iload_n dX13_isSign_12 rfl ?_
    refine zs_icmp_ne (tgt := 20) dX13_isSign_13 (by decide) (fun c_2 => ?_) (fun c_2 => ?_)
    · have c_2 : ¬ (t.2.2.2.1 = c) := by have hc := c_2; rw [nI_eq' (by omega) (by omega)] at hc; exact hc
      refine zs_iconst (v := nI 0) dX13_isSign_20 (by decide) ?_
      exact zs_zret dX13_isSign_21 rfl (Or.inl rfl) ⟨by rw [tAt, decide_eq_false c_2, Bool.and_false]; rfl, rfl⟩
    · have c_2 : t.2.2.2.1 = c := by have hc := c_2; rw [nI_eq' (by omega) (by omega)] at hc; exact hc
      refine zs_iconst (v := nI 1) dX13_isSign_16 (by decide) ?_
      refine zs_goto (tgt := 21) dX13_isSign_17 (by decide) ?_
      exact zs_zret dX13_isSign_21 rfl (Or.inr rfl) ⟨by rw [tAt, decide_eq_true h4, decide_eq_true c_2]; rfl, rfl⟩
theorem dX13_isName_0 : decode cX13_isName 0 = .ok (.aload_n 0, 1) := by decide +kernel
theorem dX13_isName_1 : decode cX13_isName 1 = .ok (.getfield 170, 3) := by decide +kernel
theorem dX13_isName_4 : decode cX13_isName 4 = .ok (.iconst 2, 1) := by decide +kernel
theorem dX13_isName_5 : decode cX13_isName 5 = .ok (.if_icmp .eq 5, 3) := by decide +kernel
theorem dX13_isName_8 : decode cX13_isName 8 = .ok (.iconst 0, 1) := by decide +kernel
theorem dX13_isName_9 : decode cX13_isName 9 = .ok (.ireturn, 1) := by decide +kernel
theorem dX13_isName_10 : decode cX13_isName 10 = .ok (.iconst 0, 1) := by decide +kernel
theorem dX13_isName_11 : decode cX13_isName 11 = .ok (.istore_n 1, 1) := by decide +kernel
theorem dX13_isName_12 : decode cX13_isName 12 = .ok (.iload_n 1, 1) := by decide +kernel
theorem dX13_isName_13 : decode cX13_isName 13 = .ok (.bipush 28, 2) := by decide +kernel
theorem dX13_isName_15 : decode cX13_isName 15 = .ok (.if_icmp .gt 23, 3) := by decide +kernel
theorem dX13_isName_18 : decode cX13_isName 18 = .ok (.aload_n 0, 1) := by decide +kernel
theorem dX13_isName_19 : decode cX13_isName 19 = .ok (.getfield 183, 3) := by decide +kernel
theorem dX13_isName_22 : decode cX13_isName 22 = .ok (.iload_n 1, 1) := by decide +kernel
theorem dX13_isName_23 : decode cX13_isName 23 = .ok (.invokestatic 206, 3) := by decide +kernel
theorem dX13_isName_26 : decode cX13_isName 26 = .ok (.lcmp, 1) := by decide +kernel
theorem dX13_isName_27 : decode cX13_isName 27 = .ok (.ifCond .ne 5, 3) := by decide +kernel
theorem dX13_isName_30 : decode cX13_isName 30 = .ok (.iconst 0, 1) := by decide +kernel
theorem dX13_isName_31 : decode cX13_isName 31 = .ok (.ireturn, 1) := by decide +kernel
theorem dX13_isName_32 : decode cX13_isName 32 = .ok (.iinc 1 1, 3) := by decide +kernel
theorem dX13_isName_35 : decode cX13_isName 35 = .ok (.goto (-23), 3) := by decide +kernel
theorem dX13_isName_38 : decode cX13_isName 38 = .ok (.iconst 1, 1) := by decide +kernel
theorem dX13_isName_39 : decode cX13_isName 39 = .ok (.ireturn, 1) := by decide +kernel
set_option maxRecDepth 100000 in
theorem lp_mname {l : Launch} {dd : Nat} {Po : zPo} {K0 : zK} {h0 : List va_E} {Xo : zK → Prop} {Gc : zG → Prop} (mo : Nat) (e : Nat → Nat) (g : Nat → Int32) (w : Int64) (n L : Nat) (t : zTk) (hd : 2 ≤ dd) (hT : mTk n L t g w) (hW : tW n L t) (hO : tOK t) (h2 : t.1 = 2) (hP : ∀ r K', r = some (.int (bI (tNm t))) ∧ K' = [(mo, .inr (11, fMo e g w))] → Po r K') : ∀ (m k : Nat), k + m = 29 → (∀ j, j < k → ¬ t.2.2.2.1 = wNo j) → zS (l, mX13_isName, dd, Po, K0, h0, Xo, Gc) 0 0 12 [(0, .ref mo), (1, .int (nI k))] [] [(mo, .inr (11, fMo e g w))] := by
  have hv4 := hO.2.2.2.2.2.2.1 h2
  have hnn : ∀ k, k = 29 → (∀ j, j < k → ¬ t.2.2.2.1 = wNo j) → t.2.2.2.2 = none := fun k hk hno => by
    rw [hW.2.1 h2]
    cases hw : wOf (nI t.2.2.2.1) with
    | none => rfl
    | some i =>
      have hi := wFind_lt 29 0 _ hw
      obtain ⟨j, hj, e⟩ := mPm_s i (by omega)
      exact absurd ((wOf_k (by omega) hj).mp (by rw [hw, e])) (hno j (by omega))
  intro m
  induction m with
  | zero =>
    intro k hk hno
    refine zs_iload_n dX13_isName_12 rfl ?_
    refine zs_bipush (v := nI 28) dX13_isName_13 (by decide) ?_
    refine zs_icmp_gt (tgt := 38) dX13_isName_15 (by decide) (fun c_1 => ?_) (fun c_1 => (c_1 (by rw [nI_lt' (by omega) (by omega)]; omega) : False).elim)
    refine zs_iconst (v := nI 1) dX13_isName_38 (by decide) ?_
    exact zs_zret dX13_isName_39 rfl (Or.inr rfl) (hP _ _ ⟨by rw [tNm, decide_eq_true h2, decide_eq_true (hnn k (by omega) hno)]; rfl, rfl⟩)
  | succ m ih =>
    intro k hk hno
    refine zs_iload_n dX13_isName_12 rfl ?_
    refine zs_bipush (v := nI 28) dX13_isName_13 (by decide) ?_
    refine zs_icmp_gt (tgt := 38) dX13_isName_15 (by decide) (fun c_1 => (absurd c_1 (by rw [nI_lt' (by omega) (by omega)]; omega) : False).elim) (fun c_1 => ?_)
    refine zs_aload_n dX13_isName_18 rfl rfl ?_
    refine zs_get 0 dX13_isName_19 zf_RX13_183 rfl (v := .long w) rfl ?_
    refine zs_iload_n dX13_isName_22 rfl ?_
    refine zs_callS (M := mX13_wordOf) (As := [.int (nI k)]) (st := [.long w]) (Kc := []) (Kr := [(mo, .inr (11, fMo e g w))]) [] [0] dX13_isName_23 zl_RX13_206 kX13_wordOf rfl rfl rfl rfl rfl (by decide) (show dd - 1 + 1 ≤ dd by omega) (Nat.zero_le _) (Nat.zero_le _) (Nat.le_of_ble_eq_true rfl) (s_mWordOf l (dd - 1) k (by omega) (by omega)) (fun r K1 hr => ?_)
    obtain ⟨rfl, rfl⟩ := hr
    refine zs_K (K' := [(mo, .inr (11, fMo e g w))]) [0] rfl (by decide) ?_
    refine zs_lcmp dX13_isName_26 ?_
    refine zs_if_ne (tgt := 32) dX13_isName_27 (by decide) (fun c_2 => ?_) (fun c_2 => ?_)
    · refine zs_iinc (v := (nI (k + 1))) (lv' := [(1, .int (nI (k + 1))), (0, .ref mo)]) dX13_isName_32 rfl (nI_add _ 1) (Nat.le_of_ble_eq_true rfl) rfl ?_
      refine zs_goto (tgt := 12) dX13_isName_35 (by decide) ?_
      refine zs_lv [1, 0] rfl ?_
      exact ih (k + 1) (by omega) (fun j hj => (Nat.lt_or_eq_of_le (Nat.le_of_lt_succ hj)).elim (hno j) (fun e => e ▸ (fun h => c_2 (lg_cmp_0.mpr (by rw [hT.2.2.2.2 h2, h])))))
    · refine zs_iconst (v := nI 0) dX13_isName_30 (by decide) ?_
      exact zs_zret dX13_isName_31 rfl (Or.inl rfl) (hP _ _ ⟨by rw [tNm, decide_eq_true h2, decide_eq_false (show ¬ t.2.2.2.2 = none from fun h => by rw [hW.2.1 h2, (wOf_k (by omega) (show k < 29 by omega)).mpr ((nL_i (by omega) (by have := (mPm_z k (by omega)).2.2; omega)).mp ((hT.2.2.2.2 h2).symm.trans (lg_cmp_0.mp c_2)))] at h; exact absurd h (by simp))]; rfl, rfl⟩)
set_option maxRecDepth 100000 in
theorem s_mIsName (l : Launch) (dd : Nat) (mo : Nat) (e : Nat → Nat) (g : Nat → Int32) (w : Int64) (n L : Nat) (t : zTk) (hd : 2 ≤ dd) (hT : mTk n L t g w) (hW : tW n L t) (hO : tOK t) : zSp l mX13_isName dd 0 0 [.ref mo] [(mo, .inr (11, fMo e g w))] (fun r K' => r = some (.int (bI (tNm t))) ∧ K' = [(mo, .inr (11, fMo e g w))]) := by
  refine zSp.of (by decide) (Nat.le_of_ble_eq_true rfl) (fun h0 => ?_)
  show zS _ 0 0 0 [(0, .ref mo)] [] [(mo, .inr (11, fMo e g w))]
  have h14 := hO.1
  have hk4 := mKd_4 (n := n) (L := L) hO.1
  refine zs_aload_n dX13_isName_0 rfl rfl ?_
  refine zs_get 0 dX13_isName_1 zf_RX13_170 rfl (v := .int (g 7)) rfl ?_
  refine zs_as (y := nI (mKd n L t)) (mTk_7 hT) ?_
  refine zs_iconst (v := nI 2) dX13_isName_4 (by decide) ?_
  refine zs_icmp_eq (tgt := 10) dX13_isName_5 (by decide) (fun c_1 => ?_) (fun c_1 => ?_)
  · have c_1 : (mKd n L t) = 2 := by have hc := c_1; rw [nI_eq' (by omega) (by omega)] at hc; exact hc
    have h2 : t.1 = 2 := (mKd_n (by decide)).mp c_1
    refine zs_iconst (v := nI 0) dX13_isName_10 (by decide) ?_
    refine zs_istore_n (lv' := [(1, .int (nI 0)), (0, .ref mo)]) dX13_isName_11 (Nat.le_of_ble_eq_true rfl) rfl ?_
    refine zs_lv [1, 0] rfl ?_
    exact lp_mname mo e g w n L t hd hT hW hO h2 (fun r K1 h => h) 29 0 rfl (fun j hj => absurd hj (Nat.not_lt_zero j))
  · have c_1 : ¬ ((mKd n L t) = 2) := by have hc := c_1; rw [nI_eq' (by omega) (by omega)] at hc; exact hc
    refine zs_iconst (v := nI 0) dX13_isName_8 (by decide) ?_
    exact zs_zret dX13_isName_9 rfl (Or.inl rfl) ⟨by rw [tNm, decide_eq_false (fun h2 => c_1 ((mKd_n (by decide)).mpr h2))]; rfl, rfl⟩
theorem dX13_bad_0 : decode cX13_bad 0 = .ok (.aload_n 0, 1) := by decide +kernel
theorem dX13_bad_1 : decode cX13_bad 1 = .ok (.aload_n 0, 1) := by decide +kernel
theorem dX13_bad_2 : decode cX13_bad 2 = .ok (.getfield 170, 3) := by decide +kernel
theorem dX13_bad_5 : decode cX13_bad 5 = .ok (.iconst 1, 1) := by decide +kernel
theorem dX13_bad_6 : decode cX13_bad 6 = .ok (.if_icmp .ne 7, 3) := by decide +kernel
theorem dX13_bad_9 : decode cX13_bad 9 = .ok (.iconst 1, 1) := by decide +kernel
theorem dX13_bad_10 : decode cX13_bad 10 = .ok (.goto 4, 3) := by decide +kernel
theorem dX13_bad_13 : decode cX13_bad 13 = .ok (.iload_n 1, 1) := by decide +kernel
theorem dX13_bad_14 : decode cX13_bad 14 = .ok (.putfield 210, 3) := by decide +kernel
theorem dX13_bad_17 : decode cX13_bad 17 = .ok (.aload_n 0, 1) := by decide +kernel
theorem dX13_bad_18 : decode cX13_bad 18 = .ok (.aload_n 0, 1) := by decide +kernel
theorem dX13_bad_19 : decode cX13_bad 19 = .ok (.getfield 164, 3) := by decide +kernel
theorem dX13_bad_22 : decode cX13_bad 22 = .ok (.putfield 213, 3) := by decide +kernel
theorem dX13_bad_25 : decode cX13_bad 25 = .ok (.iconst 0, 1) := by decide +kernel
theorem dX13_bad_26 : decode cX13_bad 26 = .ok (.ireturn, 1) := by decide +kernel
/-- a fault told -/
def mBad (n L : Nat) (t : zTk) (k : Nat) (g : Nat → Int32) : Nat → Int32 := upd (upd g 10 (nI (if mKd n L t = 1 then 1 else k))) 11 (nI t.2.1)
set_option maxRecDepth 100000 in
theorem s_mBad (l : Launch) (dd : Nat) (mo : Nat) (e : Nat → Nat) (g : Nat → Int32) (w : Int64) (n L : Nat) (t : zTk) (k : Nat) (hT : mTk n L t g w) (hW : tW n L t) (hO : tOK t) : zSp l mX13_bad dd 0 0 [.ref mo, .int (nI k)] [(mo, .inr (11, fMo e g w))] (fun r K' => r = some (.int 0) ∧ K' = [(mo, .inr (11, fMo e (mBad n L t k g) w))]) := by
  refine zSp.of (by decide) (Nat.le_of_ble_eq_true rfl) (fun h0 => ?_)
  show zS _ 0 0 0 [(0, .ref mo), (1, .int (nI k))] [] [(mo, .inr (11, fMo e g w))]
  have h14 := hO.1
  have hk4 := mKd_4 (n := n) (L := L) hO.1
  refine zs_aload_n dX13_bad_0 rfl rfl ?_
  refine zs_aload_n dX13_bad_1 rfl rfl ?_
  refine zs_get 0 dX13_bad_2 zf_RX13_170 rfl (v := .int (g 7)) rfl ?_
  refine zs_as (y := nI (mKd n L t)) (mTk_7 hT) ?_
  refine zs_iconst (v := nI 1) dX13_bad_5 (by decide) ?_
  refine zs_icmp_ne (tgt := 13) dX13_bad_6 (by decide) (fun c_1 => ?_) (fun c_1 => ?_)
  · have c_1 : ¬ ((mKd n L t) = 1) := by have hc := c_1; rw [nI_eq' (by omega) (by omega)] at hc; exact hc
    refine zs_iload_n dX13_bad_13 rfl ?_
    refine zs_put 0 dX13_bad_14 zf_RX13_210 rfl (Nat.le_of_ble_eq_true rfl) (zPv_i _) ?_
    show zS _ _ _ _ _ _ [(mo, .inr (11, fMo e (upd g 10 (nI k)) w))]
    refine zs_aload_n dX13_bad_17 rfl rfl ?_
    refine zs_aload_n dX13_bad_18 rfl rfl ?_
    refine zs_get 0 dX13_bad_19 zf_RX13_164 rfl (v := .int (g 6)) rfl ?_
    refine zs_as (y := nI t.2.1) (mTk_6 hT hW) ?_
    refine zs_put 0 dX13_bad_22 zf_RX13_213 rfl (Nat.le_of_ble_eq_true rfl) (zPv_i _) ?_
    show zS _ _ _ _ _ _ [(mo, .inr (11, fMo e (upd (upd g 10 (nI k)) 11 (nI t.2.1)) w))]
    refine zs_iconst (v := nI 0) dX13_bad_25 (by decide) ?_
    exact zs_zret dX13_bad_26 rfl (Or.inl rfl) ⟨rfl, by rw [mBad, if_neg c_1]⟩
  · have c_1 : (mKd n L t) = 1 := by have hc := c_1; rw [nI_eq' (by omega) (by omega)] at hc; exact hc
    refine zs_iconst (v := nI 1) dX13_bad_9 (by decide) ?_
    refine zs_goto (tgt := 14) dX13_bad_10 (by decide) ?_
    refine zs_put 0 dX13_bad_14 zf_RX13_210 rfl (Nat.le_of_ble_eq_true rfl) (zPv_i _) ?_
    show zS _ _ _ _ _ _ [(mo, .inr (11, fMo e (upd g 10 (nI 1)) w))]
    refine zs_aload_n dX13_bad_17 rfl rfl ?_
    refine zs_aload_n dX13_bad_18 rfl rfl ?_
    refine zs_get 0 dX13_bad_19 zf_RX13_164 rfl (v := .int (g 6)) rfl ?_
    refine zs_as (y := nI t.2.1) (mTk_6 hT hW) ?_
    refine zs_put 0 dX13_bad_22 zf_RX13_213 rfl (Nat.le_of_ble_eq_true rfl) (zPv_i _) ?_
    show zS _ _ _ _ _ _ [(mo, .inr (11, fMo e (upd (upd g 10 (nI 1)) 11 (nI t.2.1)) w))]
    refine zs_iconst (v := nI 0) dX13_bad_25 (by decide) ?_
    exact zs_zret dX13_bad_26 rfl (Or.inl rfl) ⟨rfl, by rw [mBad, if_pos c_1]⟩
