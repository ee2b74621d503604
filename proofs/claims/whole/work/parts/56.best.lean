/-! ===== the class itself: the best order ===== -/
/-- the same values, unlike ones -/
def pRm (k : Nat) (f g : Nat → Nat) : Prop := (∀ i, i < k → ∃ j, j < k ∧ g i = f j) ∧ (∀ j, j < k → ∃ i, i < k ∧ g i = f j) ∧ (∀ i, i < k → ∀ j, j < k → g i = g j → i = j)
def uSw (g : Nat → Nat) (j : Nat) : Nat → Nat := un (un g j (g (j - 1))) (j - 1) (g j)
theorem uSw_v (g : Nat → Nat) {j : Nat} (hj : 0 < j) (x : Nat) : uSw g j x = if x = j - 1 then g j else if x = j then g (j - 1) else g x := by
  unfold uSw un
  rfl
/-- the places exchanged -/
def sWp (j x : Nat) : Nat := if x = j - 1 then j else if x = j then j - 1 else x
theorem uSw_w (g : Nat → Nat) {j : Nat} (hj : 0 < j) (x : Nat) : uSw g j x = g (sWp j x) := by
  rw [uSw_v g hj]
  unfold sWp
  split
  · rfl
  · split <;> rfl
theorem sWp_lt {j x k : Nat} (hj : 0 < j) (hk : j < k) (hx : x < k) : sWp j x < k := by
  unfold sWp
  split
  · omega
  · split <;> omega
theorem sWp_2 {j x : Nat} (hj : 0 < j) : sWp j (sWp j x) = x := by
  unfold sWp
  by_cases h1 : x = j - 1
  · rw [if_pos h1, if_neg (by omega), if_pos rfl, h1]
  · rw [if_neg h1]
    by_cases h2 : x = j
    · rw [if_pos h2, if_pos rfl, h2]
    · rw [if_neg h2, if_neg h1, if_neg h2]
theorem pRm_sw {k j : Nat} {f g : Nat → Nat} (hj : 0 < j) (hk : j < k) (h : pRm k f g) : pRm k f (uSw g j) := by
  obtain ⟨h1, h2, h3⟩ := h
  refine ⟨fun i hi => ?_, fun i hi => ?_, fun i hi q hq e => ?_⟩
  · rw [uSw_w g hj]
    exact h1 _ (sWp_lt hj hk hi)
  · obtain ⟨q, hq, e⟩ := h2 i hi
    exact ⟨sWp j q, sWp_lt hj hk hq, by rw [uSw_w g hj, sWp_2 hj]; exact e⟩
  · rw [uSw_w g hj, uSw_w g hj] at e
    have := h3 _ (sWp_lt hj hk hi) _ (sWp_lt hj hk hq) e
    rw [← sWp_2 (j := j) (x := i) hj, this, sWp_2 hj]
/-- rising up to i but for the j-th -/
def rIs (g : Nat → Nat) (i j : Nat) : Prop := (∀ x y, x < y → y ≤ i → x ≠ j → y ≠ j → g x < g y) ∧ (∀ y, j < y → y ≤ i → g j < g y)
theorem rIs_sw {g : Nat → Nat} {i j : Nat} (hj : 0 < j) (hji : j ≤ i) (hg : g j < g (j - 1)) (h : rIs g i j) : rIs (uSw g j) i (j - 1) := by
  obtain ⟨h1, h2⟩ := h
  refine ⟨fun x y hxy hy hx hyj => ?_, fun y hy hyi => ?_⟩
  · rw [uSw_v g hj, uSw_v g hj, if_neg hx, if_neg hyj]
    by_cases hxj : x = j
    · rw [if_pos hxj, if_neg (by omega)]
      exact h1 _ _ (by omega) hy (by omega) (by omega)
    · rw [if_neg hxj]
      by_cases hyj2 : y = j
      · rw [if_pos hyj2]
        exact h1 _ _ (by omega) (by omega) hxj (by omega)
      · rw [if_neg hyj2]
        exact h1 _ _ hxy hy hxj hyj2
  · rw [uSw_v g hj, uSw_v g hj, if_pos rfl, if_neg (by omega)]
    by_cases hyj : y = j
    · rw [if_pos hyj]
      exact hg
    · rw [if_neg hyj]
      exact h2 _ (by omega) hyi
/-- rising below i -/
def rSt (g : Nat → Nat) (i : Nat) : Prop := ∀ x y, x < y → y < i → g x < g y
theorem rIs_end {g : Nat → Nat} {i j : Nat} (hji : j ≤ i) (h : rIs g i j) (hj : j = 0 ∨ g (j - 1) < g j) : rSt g (i + 1) := fun x y hxy hy => by
  obtain ⟨h1, h2⟩ := h
  by_cases hx : x = j
  · rw [hx]
    exact h2 _ (by omega) (by omega)
  · by_cases hyj : y = j
    · have hj1 : g (j - 1) < g j := hj.resolve_left (by omega)
      rw [hyj]
      by_cases hxj : x = j - 1
      · rw [hxj]; exact hj1
      · exact Nat.lt_trans (h1 x (j - 1) (by omega) (by omega) hx (by omega)) hj1
    · exact h1 _ _ hxy (by omega) hx hyj
theorem rIs_0 {g : Nat → Nat} {i : Nat} (h : rSt g i) : rIs g i i := ⟨fun x y hxy hy _ hyi => h x y hxy (by omega), fun y hy hyi => absurd hy (by omega)⟩
/-- what a sorted list is, it is alone -/
theorem rSt_u : ∀ (k : Nat) {f g h : Nat → Nat}, pRm k f g → pRm k f h → rSt g k → rSt h k → ∀ i, i < k → g i = h i := by
  intro k f g h hg hh sg sh i
  induction i using Nat.strongRecOn with
  | _ i ih =>
    intro hi
    obtain ⟨j, hj, ej⟩ := hg.1 i hi
    obtain ⟨p, hp, ep⟩ := hh.2.1 j hj
    obtain ⟨j2, hj2, ej2⟩ := hh.1 i hi
    obtain ⟨p2, hp2, ep2⟩ := hg.2.1 j2 hj2
    have e1 : h p = g i := ep.trans ej.symm
    have e2 : g p2 = h i := ep2.trans ej2.symm
    have hpi : i ≤ p := Nat.not_lt.mp (fun hlt => by
      have := ih p hlt hp
      have h3 := hg.2.2 p (by omega) i hi (this.trans e1)
      omega)
    have hpi2 : i ≤ p2 := Nat.not_lt.mp (fun hlt => by
      have := ih p2 hlt hp2
      have h3 := hh.2.2 p2 (by omega) i hi (this.symm.trans e2)
      omega)
    by_cases h1 : p = i
    · rw [← e1, h1]
    · have a1 := sh i p (by omega) hp
      by_cases h2 : p2 = i
      · rw [← e2, h2]
      · have a2 := sg i p2 (by omega) hp2
        omega
theorem dX12_sort_0 : decode cX12_sort 0 = .ok (.iconst 1, 1) := by decide +kernel
theorem dX12_sort_1 : decode cX12_sort 1 = .ok (.istore_n 1, 1) := by decide +kernel
theorem dX12_sort_2 : decode cX12_sort 2 = .ok (.iload_n 1, 1) := by decide +kernel
theorem dX12_sort_3 : decode cX12_sort 3 = .ok (.aload_n 0, 1) := by decide +kernel
theorem dX12_sort_4 : decode cX12_sort 4 = .ok (.arraylength, 1) := by decide +kernel
theorem dX12_sort_5 : decode cX12_sort 5 = .ok (.if_icmp .ge 50, 3) := by decide +kernel
theorem dX12_sort_8 : decode cX12_sort 8 = .ok (.iload_n 1, 1) := by decide +kernel
theorem dX12_sort_9 : decode cX12_sort 9 = .ok (.istore_n 2, 1) := by decide +kernel
theorem dX12_sort_10 : decode cX12_sort 10 = .ok (.iload_n 2, 1) := by decide +kernel
theorem dX12_sort_11 : decode cX12_sort 11 = .ok (.ifCond .le 38, 3) := by decide +kernel
theorem dX12_sort_14 : decode cX12_sort 14 = .ok (.aload_n 0, 1) := by decide +kernel
theorem dX12_sort_15 : decode cX12_sort 15 = .ok (.iload_n 2, 1) := by decide +kernel
theorem dX12_sort_16 : decode cX12_sort 16 = .ok (.iconst 1, 1) := by decide +kernel
theorem dX12_sort_17 : decode cX12_sort 17 = .ok (.isub, 1) := by decide +kernel
theorem dX12_sort_18 : decode cX12_sort 18 = .ok (.iaload, 1) := by decide +kernel
theorem dX12_sort_19 : decode cX12_sort 19 = .ok (.aload_n 0, 1) := by decide +kernel
theorem dX12_sort_20 : decode cX12_sort 20 = .ok (.iload_n 2, 1) := by decide +kernel
theorem dX12_sort_21 : decode cX12_sort 21 = .ok (.iaload, 1) := by decide +kernel
theorem dX12_sort_22 : decode cX12_sort 22 = .ok (.if_icmp .le 27, 3) := by decide +kernel
theorem dX12_sort_25 : decode cX12_sort 25 = .ok (.aload_n 0, 1) := by decide +kernel
theorem dX12_sort_26 : decode cX12_sort 26 = .ok (.iload_n 2, 1) := by decide +kernel
theorem dX12_sort_27 : decode cX12_sort 27 = .ok (.iaload, 1) := by decide +kernel
theorem dX12_sort_28 : decode cX12_sort 28 = .ok (.istore_n 3, 1) := by decide +kernel
theorem dX12_sort_29 : decode cX12_sort 29 = .ok (.aload_n 0, 1) := by decide +kernel
theorem dX12_sort_30 : decode cX12_sort 30 = .ok (.iload_n 2, 1) := by decide +kernel
theorem dX12_sort_31 : decode cX12_sort 31 = .ok (.aload_n 0, 1) := by decide +kernel
theorem dX12_sort_32 : decode cX12_sort 32 = .ok (.iload_n 2, 1) := by decide +kernel
theorem dX12_sort_33 : decode cX12_sort 33 = .ok (.iconst 1, 1) := by decide +kernel
theorem dX12_sort_34 : decode cX12_sort 34 = .ok (.isub, 1) := by decide +kernel
theorem dX12_sort_35 : decode cX12_sort 35 = .ok (.iaload, 1) := by decide +kernel
theorem dX12_sort_36 : decode cX12_sort 36 = .ok (.iastore, 1) := by decide +kernel
theorem dX12_sort_37 : decode cX12_sort 37 = .ok (.aload_n 0, 1) := by decide +kernel
theorem dX12_sort_38 : decode cX12_sort 38 = .ok (.iload_n 2, 1) := by decide +kernel
theorem dX12_sort_39 : decode cX12_sort 39 = .ok (.iconst 1, 1) := by decide +kernel
theorem dX12_sort_40 : decode cX12_sort 40 = .ok (.isub, 1) := by decide +kernel
theorem dX12_sort_41 : decode cX12_sort 41 = .ok (.iload_n 3, 1) := by decide +kernel
theorem dX12_sort_42 : decode cX12_sort 42 = .ok (.iastore, 1) := by decide +kernel
theorem dX12_sort_43 : decode cX12_sort 43 = .ok (.iinc 2 (-1), 3) := by decide +kernel
theorem dX12_sort_46 : decode cX12_sort 46 = .ok (.goto (-36), 3) := by decide +kernel
theorem dX12_sort_49 : decode cX12_sort 49 = .ok (.iinc 1 1, 3) := by decide +kernel
theorem dX12_sort_52 : decode cX12_sort 52 = .ok (.goto (-50), 3) := by decide +kernel
theorem dX12_sort_55 : decode cX12_sort 55 = .ok (.return_, 1) := by decide +kernel
set_option maxRecDepth 100000 in
theorem lp_so1 {l : Launch} {dd : Nat} {Po : zPo} {K0 : zK} {h0 : List va_E} {Xo : zK → Prop} {Gc : zG → Prop} (q k : Nat) (f : Nat → Nat) (i : Nat) (hk7 : k ≤ 12) (hf : ∀ i, i < k → f i < 1000) (hi : i < k) (hk : ∀ g, pRm k f g → rSt g (i + 1) → zS (l, mX12_sort, dd, Po, K0, h0, Xo, Gc) 0 0 49 [(0, .ref q), (1, .int (nI i))] [] [(q, .inl (0, k, .inl (nF g)))]) : ∀ (j : Nat) (g : Nat → Nat), j ≤ i → pRm k f g → rIs g i j → zS (l, mX12_sort, dd, Po, K0, h0, Xo, Gc) 0 0 10 [(0, .ref q), (1, .int (nI i)), (2, .int (nI j))] [] [(q, .inl (0, k, .inl (nF g)))] := by
  intro j
  induction j with
  | zero =>
    intro g hji hg hr
    refine zs_iload_n dX12_sort_10 rfl ?_
    refine zs_if_le (tgt := 49) dX12_sort_11 (by decide) (fun c_1 => ?_) (fun c_1 => (c_1 (by decide) : False).elim)
    refine zs_lv [0, 1] rfl ?_
    exact hk g hg (rIs_end hji hr (Or.inl rfl))
  | succ j ih =>
    intro g hji hg hr
    refine zs_iload_n dX12_sort_10 rfl ?_
    refine zs_if_le (tgt := 49) dX12_sort_11 (by decide) (fun c_1 => (absurd c_1 (by rw [show (0 : Int32) = nI 0 from rfl, nI_le' (by omega) (by omega)]; omega) : False).elim) (fun c_1 => ?_)
    have hbd : ∀ x, x < k → g x < 1000 := fun x hx => by obtain ⟨p, hp, e⟩ := hg.1 x hx; rw [e]; exact hf p hp
    have hb1 := hbd (j + 1) (by omega)
    have hb2 := hbd (j + 1 - 1) (by omega)
    refine zs_aload_n dX12_sort_14 rfl rfl ?_
    refine zs_iload_n dX12_sort_15 rfl ?_
    refine zs_iconst (v := nI 1) dX12_sort_16 (by decide) ?_
    refine zs_isub dX12_sort_17 ?_
    refine zs_as (y := nI ((j + 1) - 1)) (nI_sub (by omega)) ?_
    refine zs_iald 0 dX12_sort_18 rfl (vp_in_nI (by omega) (by omega)) ?_
    refine zs_as (y := nI (g ((j + 1) - 1))) (by rw [nI_c (n := (j + 1) - 1) (by omega)]; rfl) ?_
    refine zs_aload_n dX12_sort_19 rfl rfl ?_
    refine zs_iload_n dX12_sort_20 rfl ?_
    refine zs_iald 0 dX12_sort_21 rfl (vp_in_nI (by omega) (by omega)) ?_
    refine zs_as (y := nI (g (j + 1))) (by rw [nI_c (n := j + 1) (by omega)]; rfl) ?_
    refine zs_icmp_le (tgt := 49) dX12_sort_22 (by decide) (fun c_2 => ?_) (fun c_2 => ?_)
    · have c_2 : (g ((j + 1) - 1)) ≤ (g (j + 1)) := by have hc := c_2; rw [nI_le' (by omega) (by omega)] at hc; exact hc
      refine zs_lv [0, 1] rfl ?_
      exact hk g hg (rIs_end hji hr (Or.inr (Nat.lt_of_le_of_ne (show g (j + 1 - 1) ≤ g (j + 1) by omega) (fun e => by have := hg.2.2 _ (show j + 1 - 1 < k by omega) _ (show j + 1 < k by omega) e; omega))))
    · have c_2 : ¬ ((g ((j + 1) - 1)) ≤ (g (j + 1))) := by have hc := c_2; rw [nI_le' (by omega) (by omega)] at hc; exact hc
      have hlt : g (j + 1) < g (j + 1 - 1) := by omega
      refine zs_aload_n dX12_sort_25 rfl rfl ?_
      refine zs_iload_n dX12_sort_26 rfl ?_
      refine zs_iald 0 dX12_sort_27 rfl (vp_in_nI (by omega) (by omega)) ?_
      refine zs_as (y := nI (g (j + 1))) (by rw [nI_c (n := j + 1) (by omega)]; rfl) ?_
      refine zs_istore_n (lv' := [(3, .int (nI (g (j + 1)))), (0, .ref q), (1, .int (nI i)), (2, .int (nI (j + 1)))]) dX12_sort_28 (Nat.le_of_ble_eq_true rfl) rfl ?_
      refine zs_aload_n dX12_sort_29 rfl rfl ?_
      refine zs_iload_n dX12_sort_30 rfl ?_
      refine zs_aload_n dX12_sort_31 rfl rfl ?_
      refine zs_iload_n dX12_sort_32 rfl ?_
      refine zs_iconst (v := nI 1) dX12_sort_33 (by decide) ?_
      refine zs_isub dX12_sort_34 ?_
      refine zs_as (y := nI ((j + 1) - 1)) (nI_sub (by omega)) ?_
      refine zs_iald 0 dX12_sort_35 rfl (vp_in_nI (by omega) (by omega)) ?_
      refine zs_as (y := nI (g (j + 1 - 1))) (by rw [nI_c (n := j + 1 - 1) (by omega)]; rfl) ?_
      refine zs_iast 0 dX12_sort_36 rfl (vp_in_nI (by omega) (by omega)) ?_
      rw [nI_c (n := j + 1) (by omega), nF_u]
      show zS _ _ _ _ _ _ [(q, .inl (0, k, .inl (nF (un g (j + 1) (g (j + 1 - 1))))))]
      refine zs_aload_n dX12_sort_37 rfl rfl ?_
      refine zs_iload_n dX12_sort_38 rfl ?_
      refine zs_iconst (v := nI 1) dX12_sort_39 (by decide) ?_
      refine zs_isub dX12_sort_40 ?_
      refine zs_as (y := nI ((j + 1) - 1)) (nI_sub (by omega)) ?_
      refine zs_iload_n dX12_sort_41 rfl ?_
      refine zs_iast 0 dX12_sort_42 rfl (vp_in_nI (by omega) (by omega)) ?_
      rw [nI_c (n := (j + 1) - 1) (by omega), nF_u]
      show zS _ _ _ _ _ _ [(q, .inl (0, k, .inl (nF (un (un g (j + 1) (g (j + 1 - 1))) ((j + 1) - 1) (g (j + 1))))))]
      refine zs_iinc (v := (nI j)) (lv' := [(2, .int (nI j)), (3, .int (nI (g (j + 1)))), (0, .ref q), (1, .int (nI i))]) dX12_sort_43 rfl (nI_dec (by omega)) (Nat.le_of_ble_eq_true rfl) rfl ?_
      refine zs_goto (tgt := 10) dX12_sort_46 (by decide) ?_
      refine zs_lv [2, 3, 0] rfl ?_
      exact ih (uSw g (j + 1)) (by omega) (pRm_sw (by omega) (by omega) hg) (rIs_sw (by omega) hji hlt hr)
set_option maxRecDepth 100000 in
theorem lp_so2 {l : Launch} {dd : Nat} {Po : zPo} {K0 : zK} {h0 : List va_E} {Xo : zK → Prop} {Gc : zG → Prop} (q k : Nat) (f : Nat → Nat) (hk7 : k ≤ 12) (hf : ∀ i, i < k → f i < 1000) (hP : ∀ r K', (r = none ∧ ∃ g, pRm k f g ∧ rSt g k ∧ K' = [(q, .inl (0, k, .inl (nF g)))]) → Po r K') : ∀ (m i : Nat) (g : Nat → Nat), (i + m = k ∨ (m = 0 ∧ k ≤ i ∧ i ≤ 12)) → pRm k f g → rSt g i → zS (l, mX12_sort, dd, Po, K0, h0, Xo, Gc) 0 0 2 [(0, .ref q), (1, .int (nI i))] [] [(q, .inl (0, k, .inl (nF g)))] := by
  intro m
  induction m with
  | zero =>
    intro i g hm hg hr
    refine zs_iload_n dX12_sort_2 rfl ?_
    refine zs_aload_n dX12_sort_3 rfl rfl ?_
    refine zs_alen (v := (nI k)) 0 dX12_sort_4 rfl (by decide) rfl ?_
    refine zs_icmp_ge (tgt := 55) dX12_sort_5 (by decide) (fun c_1 => ?_) (fun c_1 => (c_1 (by rw [nI_le' (by omega) (by omega)]; omega) : False).elim)
    exact zs_vret dX12_sort_55 rfl (hP _ _ ⟨rfl, g, hg, fun x y hxy hy => hr x y hxy (by omega), rfl⟩)
  | succ m ih =>
    intro i g hm hg hr
    refine zs_iload_n dX12_sort_2 rfl ?_
    refine zs_aload_n dX12_sort_3 rfl rfl ?_
    refine zs_alen (v := (nI k)) 0 dX12_sort_4 rfl (by decide) rfl ?_
    refine zs_icmp_ge (tgt := 55) dX12_sort_5 (by decide) (fun c_1 => (nI_ge (show i < k by omega) (by omega) c_1 : False).elim) (fun c_1 => ?_)
    refine zs_iload_n dX12_sort_8 rfl ?_
    refine zs_istore_n (lv' := [(2, .int (nI i)), (0, .ref q), (1, .int (nI i))]) dX12_sort_9 (Nat.le_of_ble_eq_true rfl) rfl ?_
    refine zs_lv [1, 2, 0] rfl ?_
    refine lp_so1 q k f i hk7 hf (by omega) (fun g hg hr => ?_) i g (Nat.le_refl _) hg (rIs_0 hr)
    refine zs_iinc (v := (nI (i + 1))) (lv' := [(1, .int (nI (i + 1))), (0, .ref q)]) dX12_sort_49 rfl (nI_add _ 1) (Nat.le_of_ble_eq_true rfl) rfl ?_
    refine zs_goto (tgt := 2) dX12_sort_52 (by decide) ?_
    refine zs_lv [1, 0] rfl ?_
    exact ih (i + 1) g (by omega) hg hr
set_option maxRecDepth 100000 in
theorem s_sort (l : Launch) (dd : Nat) (q k : Nat) (f : Nat → Nat) (hk7 : k ≤ 12) (hf : ∀ i, i < k → f i < 1000) (hd : ∀ i, i < k → ∀ j, j < k → f i = f j → i = j) : zSp l mX12_sort dd 0 0 [.ref q] [(q, .inl (0, k, .inl (nF f)))] (fun r K' => r = none ∧ ∃ g, pRm k f g ∧ rSt g k ∧ K' = [(q, .inl (0, k, .inl (nF g)))]) := by
  refine zSp.of (by decide) (Nat.le_of_ble_eq_true rfl) (fun h0 => ?_)
  show zS _ 0 0 0 [(0, .ref q)] [] [(q, .inl (0, k, .inl (nF f)))]
  refine zs_iconst (v := nI 1) dX12_sort_0 (by decide) ?_
  refine zs_istore_n (lv' := [(1, .int (nI 1)), (0, .ref q)]) dX12_sort_1 (Nat.le_of_ble_eq_true rfl) rfl ?_
  refine zs_lv [1, 0] rfl ?_
  exact lp_so2 q k f hk7 hf (fun r K1 h => h) (k - 1) 1 f (by omega) ⟨fun i hi => ⟨i, hi, rfl⟩, fun i hi => ⟨i, hi, rfl⟩, hd⟩ (fun x y hxy hy => absurd hxy (by omega))
