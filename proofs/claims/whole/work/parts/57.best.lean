/-! ===== the class itself: the best order, tried by who draws and who throws ===== -/
/-- who hands at the place p, the d-th drawing and the t-th throwing -/
def oIx (d t p : Nat) : Nat := if p - 1 < min d t then p - 1 else if p < max d t then p else p + 1
def arrF (f : Nat → Nat) (n d t : Nat) : Nat → Nat := fun x => if x = 0 then f d else if x = n - 1 then f t else f (oIx d t x)
/-- the next place, i of them looked at -/
def aP (d t i : Nat) : Nat := 1 + i - (if d < i then 1 else 0) - (if t < i then 1 else 0)
def aG (f g : Nat → Nat) (n d t i : Nat) : Nat → Nat := fun x => if (x = 0 ∧ d < i) ∨ (x = n - 1 ∧ x ≠ 0 ∧ t < i) ∨ (1 ≤ x ∧ x < aP d t i ∧ x ≠ n - 1) then arrF f n d t x else g x
theorem aP_d {d t : Nat} (h : d ≠ t) : aP d t (d + 1) = aP d t d := by
  unfold aP
  rw [if_pos (by omega), if_neg (show ¬ d < d by omega)]
  by_cases ht : t < d
  · rw [if_pos (by omega), if_pos ht]; omega
  · rw [if_neg (by omega), if_neg ht]; omega
theorem aP_t {d t : Nat} (h : d ≠ t) : aP d t (t + 1) = aP d t t := by
  unfold aP
  rw [if_pos (show t < t + 1 by omega), if_neg (show ¬ t < t by omega)]
  by_cases ht : d < t
  · rw [if_pos (by omega), if_pos ht]; omega
  · rw [if_neg (by omega), if_neg ht]; omega
theorem aP_o {d t i : Nat} (h1 : i ≠ d) (h2 : i ≠ t) (h : d ≠ t) : aP d t (i + 1) = aP d t i + 1 := by
  unfold aP
  by_cases a : d < i
  · by_cases b : t < i
    · rw [if_pos a, if_pos b, if_pos (by omega), if_pos (by omega)]; omega
    · rw [if_pos a, if_neg b, if_pos (by omega), if_neg (by omega)]; omega
  · by_cases b : t < i
    · rw [if_neg a, if_pos b, if_neg (by omega), if_pos (by omega)]; omega
    · rw [if_neg a, if_neg b, if_neg (by omega), if_neg (by omega)]; omega
theorem aP_lt {d t i n : Nat} (h1 : i ≠ d) (h2 : i ≠ t) (h : d ≠ t) (hi : i < n) (hd : d < n) (ht : t < n) : aP d t i < n - 1 ∧ 1 ≤ aP d t i ∧ oIx d t (aP d t i) = i := by
  unfold aP oIx
  by_cases a : d < i
  · by_cases b : t < i
    · rw [if_pos a, if_pos b]
      refine ⟨by omega, by omega, ?_⟩
      rw [if_neg (by omega), if_neg (by omega)]
      omega
    · rw [if_pos a, if_neg b]
      refine ⟨by omega, by omega, ?_⟩
      rw [if_neg (by omega), if_pos (by omega)]
      omega
  · by_cases b : t < i
    · rw [if_neg a, if_pos b]
      refine ⟨by omega, by omega, ?_⟩
      rw [if_neg (by omega), if_pos (by omega)]
      omega
    · rw [if_neg a, if_neg b]
      refine ⟨by omega, by omega, ?_⟩
      rw [if_pos (by omega)]
      omega
theorem aP_le {d t i n : Nat} (h : d ≠ t) (hi : i ≤ n) (hd : d < n) (ht : t < n) (hn : 2 ≤ n) : aP d t i ≤ n := by
  unfold aP
  by_cases a : d < i
  · rw [if_pos a]; split <;> omega
  · rw [if_neg a]; split <;> omega
theorem aG_c {f g : Nat → Nat} {n d t i j x : Nat} (h : ((x = 0 ∧ d < i) ∨ (x = n - 1 ∧ x ≠ 0 ∧ t < i) ∨ (1 ≤ x ∧ x < aP d t i ∧ x ≠ n - 1)) ↔ ((x = 0 ∧ d < j) ∨ (x = n - 1 ∧ x ≠ 0 ∧ t < j) ∨ (1 ≤ x ∧ x < aP d t j ∧ x ≠ n - 1))) : aG f g n d t i x = aG f g n d t j x := by
  unfold aG
  by_cases q : (x = 0 ∧ d < i) ∨ (x = n - 1 ∧ x ≠ 0 ∧ t < i) ∨ (1 ≤ x ∧ x < aP d t i ∧ x ≠ n - 1)
  · rw [if_pos q, if_pos (h.mp q)]
  · rw [if_neg q, if_neg (fun z => q (h.mpr z))]
theorem aG_d {f g : Nat → Nat} {n d t : Nat} (h : d ≠ t) (hn : 2 ≤ n) : un (aG f g n d t d) 0 (f d) = aG f g n d t (d + 1) := by
  funext x
  unfold un
  by_cases hx : x = 0
  · rw [if_pos hx]
    unfold aG
    rw [if_pos (Or.inl ⟨hx, by omega⟩)]
    unfold arrF
    rw [if_pos hx]
  · rw [if_neg hx]
    have hp := aP_d h
    exact aG_c ⟨fun q => by omega, fun q => by omega⟩
theorem aG_t {f g : Nat → Nat} {n d t : Nat} (h : d ≠ t) (hn : 2 ≤ n) : un (aG f g n d t t) (n - 1) (f t) = aG f g n d t (t + 1) := by
  funext x
  unfold un
  by_cases hx : x = n - 1
  · rw [if_pos hx]
    unfold aG
    rw [if_pos (Or.inr (Or.inl ⟨hx, by omega, by omega⟩))]
    unfold arrF
    rw [if_neg (by omega), if_pos hx]
  · rw [if_neg hx]
    have hp := aP_t h
    exact aG_c ⟨fun q => by omega, fun q => by omega⟩
theorem aG_o {f g : Nat → Nat} {n d t i : Nat} (h1 : i ≠ d) (h2 : i ≠ t) (h : d ≠ t) (hi : i < n) (hd : d < n) (ht : t < n) : un (aG f g n d t i) (aP d t i) (f i) = aG f g n d t (i + 1) := by
  have hp := aP_o h1 h2 h
  obtain ⟨q1, q2, q3⟩ := aP_lt h1 h2 h hi hd ht
  funext x
  unfold un
  by_cases hx : x = aP d t i
  · rw [if_pos hx]
    unfold aG
    rw [if_pos (Or.inr (Or.inr ⟨by omega, by omega, by omega⟩))]
    unfold arrF
    rw [if_neg (by omega), if_neg (by omega), hx, q3]
  · rw [if_neg hx]
    exact aG_c ⟨fun q => by omega, fun q => by omega⟩
theorem aG_n {f g : Nat → Nat} {n d t : Nat} (h : d ≠ t) (hn : 2 ≤ n) (hd : d < n) (ht : t < n) : aG f g n d t n = nCl (arrF f n d t) g n := by
  have hp : aP d t n = n - 1 := by
    unfold aP
    rw [if_pos hd, if_pos ht]
    omega
  funext x
  unfold aG nCl
  rw [hp]
  by_cases hx : x < n
  · rw [if_pos hx, if_pos (by omega)]
  · rw [if_neg hx, if_neg (by omega)]
theorem aG_0 {f g : Nat → Nat} {n d t : Nat} : aG f g n d t 0 = g := by
  funext x
  unfold aG aP
  rw [if_neg (by omega)]
/-- who draws tried with the throwers below j, from the last down -/
def bT (D : zYd) (g : Nat → Nat) (n d : Nat) : Nat → Nat × (Nat → Nat) → Nat × (Nat → Nat)
  | 0, st => st
  | j + 1, st => bT D g n d j (if j = d then st else if pPd D (arrF g n d j) n n < st.1 then (pPd D (arrF g n d j) n n, nCl (arrF g n d j) st.2 n) else st)
def bO (D : zYd) (g : Nat → Nat) (n : Nat) : Nat → Nat → Nat × (Nat → Nat) → Nat × (Nat → Nat)
  | 0, _, st => st
  | m + 1, d, st => bO D g n m (d + 1) (bT D g n d n st)
theorem bT_le {D : zYd} {g : Nat → Nat} {n d : Nat} : ∀ j (st : Nat × (Nat → Nat)), st.1 ≤ 2147483647 → (bT D g n d j st).1 ≤ 2147483647
  | 0, st, h => h
  | j + 1, st, h => by
    rw [bT]
    refine bT_le j _ ?_
    split
    · exact h
    · split
      · show pPd D (arrF g n d j) n n ≤ 2147483647
        omega
      · exact h
theorem pPd_c {D : zYd} {f g : Nat → Nat} {n : Nat} : ∀ k, (∀ i, i < k → f i = g i) → pPd D f n k = pPd D g n k
  | 0, _ => rfl
  | k + 1, h => by rw [pPd, pPd, pPd_c k (fun i hi => h i (by omega)), h k (by omega)]
theorem arrF_lt {f : Nat → Nat} {n d t M : Nat} (h : d ≠ t) (hd : d < n) (ht : t < n) (hf : ∀ i, i < n → f i < M) : ∀ i, i < n → arrF f n d t i < M := fun i hi => by
  unfold arrF
  split
  · exact hf d hd
  · split
    · exact hf t ht
    · refine hf _ ?_
      unfold oIx
      split
      · omega
      · split <;> omega
theorem dX12_arrange_0 : decode cX12_arrange 0 = .ok (.iconst 1, 1) := by decide +kernel
theorem dX12_arrange_1 : decode cX12_arrange 1 = .ok (.istore 4, 2) := by decide +kernel
theorem dX12_arrange_3 : decode cX12_arrange 3 = .ok (.iconst 0, 1) := by decide +kernel
theorem dX12_arrange_4 : decode cX12_arrange 4 = .ok (.istore 5, 2) := by decide +kernel
theorem dX12_arrange_6 : decode cX12_arrange 6 = .ok (.iload 5, 2) := by decide +kernel
theorem dX12_arrange_8 : decode cX12_arrange 8 = .ok (.aload_n 0, 1) := by decide +kernel
theorem dX12_arrange_9 : decode cX12_arrange 9 = .ok (.arraylength, 1) := by decide +kernel
theorem dX12_arrange_10 : decode cX12_arrange 10 = .ok (.if_icmp .ge 71, 3) := by decide +kernel
theorem dX12_arrange_13 : decode cX12_arrange 13 = .ok (.iload 5, 2) := by decide +kernel
theorem dX12_arrange_15 : decode cX12_arrange 15 = .ok (.iload_n 1, 1) := by decide +kernel
theorem dX12_arrange_16 : decode cX12_arrange 16 = .ok (.if_icmp .ne 7, 3) := by decide +kernel
theorem dX12_arrange_19 : decode cX12_arrange 19 = .ok (.iconst 0, 1) := by decide +kernel
theorem dX12_arrange_20 : decode cX12_arrange 20 = .ok (.goto 18, 3) := by decide +kernel
theorem dX12_arrange_23 : decode cX12_arrange 23 = .ok (.iload 5, 2) := by decide +kernel
theorem dX12_arrange_25 : decode cX12_arrange 25 = .ok (.iload_n 2, 1) := by decide +kernel
theorem dX12_arrange_26 : decode cX12_arrange 26 = .ok (.if_icmp .ne 10, 3) := by decide +kernel
theorem dX12_arrange_29 : decode cX12_arrange 29 = .ok (.aload_n 0, 1) := by decide +kernel
theorem dX12_arrange_30 : decode cX12_arrange 30 = .ok (.arraylength, 1) := by decide +kernel
theorem dX12_arrange_31 : decode cX12_arrange 31 = .ok (.iconst 1, 1) := by decide +kernel
theorem dX12_arrange_32 : decode cX12_arrange 32 = .ok (.isub, 1) := by decide +kernel
theorem dX12_arrange_33 : decode cX12_arrange 33 = .ok (.goto 5, 3) := by decide +kernel
theorem dX12_arrange_36 : decode cX12_arrange 36 = .ok (.iload 4, 2) := by decide +kernel
theorem dX12_arrange_38 : decode cX12_arrange 38 = .ok (.istore 6, 2) := by decide +kernel
theorem dX12_arrange_40 : decode cX12_arrange 40 = .ok (.iload 5, 2) := by decide +kernel
theorem dX12_arrange_42 : decode cX12_arrange 42 = .ok (.iload_n 1, 1) := by decide +kernel
theorem dX12_arrange_43 : decode cX12_arrange 43 = .ok (.if_icmp .eq 12, 3) := by decide +kernel
theorem dX12_arrange_46 : decode cX12_arrange 46 = .ok (.iload 5, 2) := by decide +kernel
theorem dX12_arrange_48 : decode cX12_arrange 48 = .ok (.iload_n 2, 1) := by decide +kernel
theorem dX12_arrange_49 : decode cX12_arrange 49 = .ok (.if_icmp .eq 6, 3) := by decide +kernel
theorem dX12_arrange_52 : decode cX12_arrange 52 = .ok (.iinc 4 1, 3) := by decide +kernel
theorem dX12_arrange_55 : decode cX12_arrange 55 = .ok (.iload 6, 2) := by decide +kernel
theorem dX12_arrange_57 : decode cX12_arrange 57 = .ok (.ifCond .lt 18, 3) := by decide +kernel
theorem dX12_arrange_60 : decode cX12_arrange 60 = .ok (.iload 6, 2) := by decide +kernel
theorem dX12_arrange_62 : decode cX12_arrange 62 = .ok (.aload_n 3, 1) := by decide +kernel
theorem dX12_arrange_63 : decode cX12_arrange 63 = .ok (.arraylength, 1) := by decide +kernel
theorem dX12_arrange_64 : decode cX12_arrange 64 = .ok (.if_icmp .ge 11, 3) := by decide +kernel
theorem dX12_arrange_67 : decode cX12_arrange 67 = .ok (.aload_n 3, 1) := by decide +kernel
theorem dX12_arrange_68 : decode cX12_arrange 68 = .ok (.iload 6, 2) := by decide +kernel
theorem dX12_arrange_70 : decode cX12_arrange 70 = .ok (.aload_n 0, 1) := by decide +kernel
theorem dX12_arrange_71 : decode cX12_arrange 71 = .ok (.iload 5, 2) := by decide +kernel
theorem dX12_arrange_73 : decode cX12_arrange 73 = .ok (.iaload, 1) := by decide +kernel
theorem dX12_arrange_74 : decode cX12_arrange 74 = .ok (.iastore, 1) := by decide +kernel
theorem dX12_arrange_75 : decode cX12_arrange 75 = .ok (.iinc 5 1, 3) := by decide +kernel
theorem dX12_arrange_78 : decode cX12_arrange 78 = .ok (.goto (-72), 3) := by decide +kernel
theorem dX12_arrange_81 : decode cX12_arrange 81 = .ok (.return_, 1) := by decide +kernel
set_option maxRecDepth 100000 in
theorem lp_ar {l : Launch} {dd : Nat} {Po : zPo} {K0 : zK} {h0 : List va_E} {Xo : zK → Prop} {Gc : zG → Prop} (q q2 n d t : Nat) (f g : Nat → Nat) (hn : 2 ≤ n ∧ n ≤ 12) (hdt : d ≠ t) (hd : d < n) (ht : t < n) (hf : ∀ i, i < n → f i < 1000)
    (hk : zS (l, mX12_arrange, dd, Po, K0, h0, Xo, Gc) 0 0 81 [(0, .ref q), (1, .int (nI d)), (2, .int (nI t)), (3, .ref q2)] [] [(q, .inl (0, n, .inl (nF f))), (q2, .inl (0, n, .inl (nF (aG f g n d t n))))]) :
    ∀ (m i : Nat) , i + m = n → zS (l, mX12_arrange, dd, Po, K0, h0, Xo, Gc) 0 0 6 [(0, .ref q), (1, .int (nI d)), (2, .int (nI t)), (3, .ref q2), (4, .int (nI (aP d t i))), (5, .int (nI i))] [] [(q, .inl (0, n, .inl (nF f))), (q2, .inl (0, n, .inl (nF (aG f g n d t i))))] := by
  intro m
  induction m with
  | zero =>
    intro i hi
    refine zs_iload dX12_arrange_6 rfl ?_
    refine zs_aload_n dX12_arrange_8 rfl rfl ?_
    refine zs_alen (v := (nI n)) 0 dX12_arrange_9 rfl (by decide) rfl ?_
    refine zs_icmp_ge (tgt := 81) dX12_arrange_10 (by decide) (fun c_1 => ?_) (fun c_1 => (c_1 (by rw [show i = n by omega]; exact Int32.le_refl _) : False).elim)
    rw [show i = n by omega]
    refine zs_lv [0, 1, 2, 3] rfl ?_
    exact hk
  | succ m ih =>
    intro i hi
    have hfi := hf i (by omega)
    have hpl := aP_le (i := i) hdt (by omega) hd ht hn.1
    refine zs_iload dX12_arrange_6 rfl ?_
    refine zs_aload_n dX12_arrange_8 rfl rfl ?_
    refine zs_alen (v := (nI n)) 0 dX12_arrange_9 rfl (by decide) rfl ?_
    refine zs_icmp_ge (tgt := 81) dX12_arrange_10 (by decide) (fun c_1 => (nI_ge (show i < n by omega) (by omega) c_1 : False).elim) (fun c_1 => ?_)
    refine zs_iload dX12_arrange_13 rfl ?_
    refine zs_iload_n dX12_arrange_15 rfl ?_
    refine zs_icmp_ne (tgt := 23) dX12_arrange_16 (by decide) (fun c_2 => ?_) (fun c_2 => ?_)
    · have c_2 : ¬ (i = d) := by have hc := c_2; rw [nI_eq' (by omega) (by omega)] at hc; exact hc
      have hnd : i ≠ d := c_2
      refine zs_iload dX12_arrange_23 rfl ?_
      refine zs_iload_n dX12_arrange_25 rfl ?_
      refine zs_icmp_ne (tgt := 36) dX12_arrange_26 (by decide) (fun c_3 => ?_) (fun c_3 => ?_)
      · have c_3 : ¬ (i = t) := by have hc := c_3; rw [nI_eq' (by omega) (by omega)] at hc; exact hc
        have hnt : i ≠ t := c_3
        have hpo := aP_lt hnd hnt hdt (show i < n by omega) hd ht
        refine zs_iload dX12_arrange_36 rfl ?_
        refine zs_istore (lv' := [(6, .int (nI (aP d t i))), (0, .ref q), (1, .int (nI d)), (2, .int (nI t)), (3, .ref q2), (4, .int (nI (aP d t i))), (5, .int (nI i))]) dX12_arrange_38 (Nat.le_of_ble_eq_true rfl) rfl ?_
        refine zs_iload dX12_arrange_40 rfl ?_
        refine zs_iload_n dX12_arrange_42 rfl ?_
        refine zs_icmp_eq (tgt := 55) dX12_arrange_43 (by decide) (fun c_4 => ((hnd ((nI_eq' (by omega) (by omega)).mp c_4)) : False).elim) (fun c_4 => ?_)
        refine zs_iload dX12_arrange_46 rfl ?_
        refine zs_iload_n dX12_arrange_48 rfl ?_
        refine zs_icmp_eq (tgt := 55) dX12_arrange_49 (by decide) (fun c_5 => ((hnt ((nI_eq' (by omega) (by omega)).mp c_5)) : False).elim) (fun c_5 => ?_)
        refine zs_iinc (v := (nI ((aP d t i) + 1))) (lv' := [(4, .int (nI ((aP d t i) + 1))), (6, .int (nI (aP d t i))), (0, .ref q), (1, .int (nI d)), (2, .int (nI t)), (3, .ref q2), (5, .int (nI i))]) dX12_arrange_52 rfl (nI_add _ 1) (Nat.le_of_ble_eq_true rfl) rfl ?_
        refine zs_iload dX12_arrange_55 rfl ?_
        refine zs_if_lt (tgt := 75) dX12_arrange_57 (by decide) (fun c_6 => (absurd c_6 (by rw [show (0 : Int32) = nI 0 from rfl, nI_lt' (by omega) (by omega)]; omega) : False).elim) (fun c_6 => ?_)
        refine zs_iload dX12_arrange_60 rfl ?_
        refine zs_aload_n dX12_arrange_62 rfl rfl ?_
        refine zs_alen (v := (nI n)) 1 dX12_arrange_63 rfl (by decide) rfl ?_
        refine zs_icmp_ge (tgt := 75) dX12_arrange_64 (by decide) (fun c_7 => (absurd c_7 (by rw [nI_le' (by omega) (by omega)]; omega) : False).elim) (fun c_7 => ?_)
        refine zs_aload_n dX12_arrange_67 rfl rfl ?_
        refine zs_iload dX12_arrange_68 rfl ?_
        refine zs_aload_n dX12_arrange_70 rfl rfl ?_
        refine zs_iload dX12_arrange_71 rfl ?_
        refine zs_iald 0 dX12_arrange_73 rfl (vp_in_nI (by omega) (by omega)) ?_
        refine zs_as (y := nI (f i)) (by rw [nI_c (n := i) (by omega)]; rfl) ?_
        refine zs_iast 1 dX12_arrange_74 rfl (vp_in_nI (by omega) (by omega)) ?_
        rw [nI_c (n := aP d t i) (by omega), nF_u]
        rw [aG_o hnd hnt hdt (by omega) hd ht]
        show zS _ _ _ _ _ _ [(q, .inl (0, n, .inl (nF f))), (q2, .inl (0, n, .inl (nF (aG f g n d t (i + 1)))))]
        refine zs_iinc (v := (nI (i + 1))) (lv' := [(5, .int (nI (i + 1))), (4, .int (nI ((aP d t i) + 1))), (6, .int (nI (aP d t i))), (0, .ref q), (1, .int (nI d)), (2, .int (nI t)), (3, .ref q2)]) dX12_arrange_75 rfl (nI_add _ 1) (Nat.le_of_ble_eq_true rfl) rfl ?_
        refine zs_goto (tgt := 6) dX12_arrange_78 (by decide) ?_
        refine zs_lv [3, 4, 5, 6, 1, 0] rfl ?_
        have hr := ih (i + 1) (by omega)
        rw [aP_o hnd hnt hdt] at hr
        exact hr
      · have c_3 : i = t := by have hc := c_3; rw [nI_eq' (by omega) (by omega)] at hc; exact hc
        have hit : i = t := c_3
        refine zs_aload_n dX12_arrange_29 rfl rfl ?_
        refine zs_alen (v := (nI n)) 0 dX12_arrange_30 rfl (by decide) rfl ?_
        refine zs_iconst (v := nI 1) dX12_arrange_31 (by decide) ?_
        refine zs_isub dX12_arrange_32 ?_
        refine zs_as (y := nI (n - 1)) (nI_sub (by omega)) ?_
        refine zs_goto (tgt := 38) dX12_arrange_33 (by decide) ?_
        refine zs_istore (lv' := [(6, .int (nI (n - 1))), (0, .ref q), (1, .int (nI d)), (2, .int (nI t)), (3, .ref q2), (4, .int (nI (aP d t i))), (5, .int (nI i))]) dX12_arrange_38 (Nat.le_of_ble_eq_true rfl) rfl ?_
        refine zs_iload dX12_arrange_40 rfl ?_
        refine zs_iload_n dX12_arrange_42 rfl ?_
        refine zs_icmp_eq (tgt := 55) dX12_arrange_43 (by decide) (fun c_8 => ((hnd ((nI_eq' (by omega) (by omega)).mp c_8)) : False).elim) (fun c_8 => ?_)
        refine zs_iload dX12_arrange_46 rfl ?_
        refine zs_iload_n dX12_arrange_48 rfl ?_
        refine zs_icmp_eq (tgt := 55) dX12_arrange_49 (by decide) (fun c_9 => ?_) (fun c_9 => (c_9 (congrArg nI hit) : False).elim)
        refine zs_iload dX12_arrange_55 rfl ?_
        refine zs_if_lt (tgt := 75) dX12_arrange_57 (by decide) (fun c_10 => (absurd c_10 (by rw [show (0 : Int32) = nI 0 from rfl, nI_lt' (by omega) (by omega)]; omega) : False).elim) (fun c_10 => ?_)
        refine zs_iload dX12_arrange_60 rfl ?_
        refine zs_aload_n dX12_arrange_62 rfl rfl ?_
        refine zs_alen (v := (nI n)) 1 dX12_arrange_63 rfl (by decide) rfl ?_
        refine zs_icmp_ge (tgt := 75) dX12_arrange_64 (by decide) (fun c_11 => (absurd c_11 (by rw [nI_le' (by omega) (by omega)]; omega) : False).elim) (fun c_11 => ?_)
        refine zs_aload_n dX12_arrange_67 rfl rfl ?_
        refine zs_iload dX12_arrange_68 rfl ?_
        refine zs_aload_n dX12_arrange_70 rfl rfl ?_
        refine zs_iload dX12_arrange_71 rfl ?_
        refine zs_iald 0 dX12_arrange_73 rfl (vp_in_nI (by omega) (by omega)) ?_
        refine zs_as (y := nI (f i)) (by rw [nI_c (n := i) (by omega)]; rfl) ?_
        refine zs_iast 1 dX12_arrange_74 rfl (vp_in_nI (by omega) (by omega)) ?_
        rw [nI_c (n := n - 1) (by omega), nF_u]
        rw [show un (aG f g n d t i) (n - 1) (f i) = (aG f g n d t (i + 1)) from by subst hit; exact aG_t hdt hn.1]
        show zS _ _ _ _ _ _ [(q, .inl (0, n, .inl (nF f))), (q2, .inl (0, n, .inl (nF (aG f g n d t (i + 1)))))]
        refine zs_iinc (v := (nI (i + 1))) (lv' := [(5, .int (nI (i + 1))), (6, .int (nI (n - 1))), (0, .ref q), (1, .int (nI d)), (2, .int (nI t)), (3, .ref q2), (4, .int (nI (aP d t i)))]) dX12_arrange_75 rfl (nI_add _ 1) (Nat.le_of_ble_eq_true rfl) rfl ?_
        refine zs_goto (tgt := 6) dX12_arrange_78 (by decide) ?_
        refine zs_lv [2, 3, 4, 5, 6, 0] rfl ?_
        have hr := ih (i + 1) (by omega)
        rw [show aP d t (i + 1) = aP d t i from by subst hit; exact aP_t hdt] at hr
        exact hr
    · have c_2 : i = d := by have hc := c_2; rw [nI_eq' (by omega) (by omega)] at hc; exact hc
      have hid : i = d := c_2
      refine zs_iconst (v := nI 0) dX12_arrange_19 (by decide) ?_
      refine zs_goto (tgt := 38) dX12_arrange_20 (by decide) ?_
      refine zs_istore (lv' := [(6, .int (nI 0)), (0, .ref q), (1, .int (nI d)), (2, .int (nI t)), (3, .ref q2), (4, .int (nI (aP d t i))), (5, .int (nI i))]) dX12_arrange_38 (Nat.le_of_ble_eq_true rfl) rfl ?_
      refine zs_iload dX12_arrange_40 rfl ?_
      refine zs_iload_n dX12_arrange_42 rfl ?_
      refine zs_icmp_eq (tgt := 55) dX12_arrange_43 (by decide) (fun c_12 => ?_) (fun c_12 => (c_12 (congrArg nI hid) : False).elim)
      refine zs_iload dX12_arrange_55 rfl ?_
      refine zs_if_lt (tgt := 75) dX12_arrange_57 (by decide) (fun c_13 => (absurd c_13 (by rw [show (0 : Int32) = nI 0 from rfl, nI_lt' (by omega) (by omega)]; omega) : False).elim) (fun c_13 => ?_)
      refine zs_iload dX12_arrange_60 rfl ?_
      refine zs_aload_n dX12_arrange_62 rfl rfl ?_
      refine zs_alen (v := (nI n)) 1 dX12_arrange_63 rfl (by decide) rfl ?_
      refine zs_icmp_ge (tgt := 75) dX12_arrange_64 (by decide) (fun c_14 => (absurd c_14 (by rw [nI_le' (by omega) (by omega)]; omega) : False).elim) (fun c_14 => ?_)
      refine zs_aload_n dX12_arrange_67 rfl rfl ?_
      refine zs_iload dX12_arrange_68 rfl ?_
      refine zs_aload_n dX12_arrange_70 rfl rfl ?_
      refine zs_iload dX12_arrange_71 rfl ?_
      refine zs_iald 0 dX12_arrange_73 rfl (vp_in_nI (by omega) (by omega)) ?_
      refine zs_as (y := nI (f i)) (by rw [nI_c (n := i) (by omega)]; rfl) ?_
      refine zs_iast 1 dX12_arrange_74 rfl (vp_in_nI (by omega) (by omega)) ?_
      rw [nI_c (n := 0) (by omega), nF_u]
      rw [show un (aG f g n d t i) 0 (f i) = (aG f g n d t (i + 1)) from by subst hid; exact aG_d hdt hn.1]
      show zS _ _ _ _ _ _ [(q, .inl (0, n, .inl (nF f))), (q2, .inl (0, n, .inl (nF (aG f g n d t (i + 1)))))]
      refine zs_iinc (v := (nI (i + 1))) (lv' := [(5, .int (nI (i + 1))), (6, .int (nI 0)), (0, .ref q), (1, .int (nI d)), (2, .int (nI t)), (3, .ref q2), (4, .int (nI (aP d t i)))]) dX12_arrange_75 rfl (nI_add _ 1) (Nat.le_of_ble_eq_true rfl) rfl ?_
      refine zs_goto (tgt := 6) dX12_arrange_78 (by decide) ?_
      refine zs_lv [2, 3, 4, 5, 6, 0] rfl ?_
      have hr := ih (i + 1) (by omega)
      rw [show aP d t (i + 1) = aP d t i from by subst hid; exact aP_d hdt] at hr
      exact hr
set_option maxRecDepth 100000 in
theorem s_arrange (l : Launch) (dd : Nat) (q q2 n d t : Nat) (f g : Nat → Nat) (hn : 2 ≤ n ∧ n ≤ 12) (hdt : d ≠ t) (hd : d < n) (ht : t < n) (hf : ∀ i, i < n → f i < 1000) : zSp l mX12_arrange dd 0 0 [.ref q, .int (nI d), .int (nI t), .ref q2] [(q, .inl (0, n, .inl (nF f))), (q2, .inl (0, n, .inl (nF g)))] (fun r K' => r = none ∧ K' = [(q, .inl (0, n, .inl (nF f))), (q2, .inl (0, n, .inl (nF (nCl (arrF f n d t) g n))))]) := by
  refine zSp.of (by decide) (Nat.le_of_ble_eq_true rfl) (fun h0 => ?_)
  show zS _ 0 0 0 [(0, .ref q), (1, .int (nI d)), (2, .int (nI t)), (3, .ref q2)] [] [(q, .inl (0, n, .inl (nF f))), (q2, .inl (0, n, .inl (nF g)))]
  refine zs_iconst (v := nI 1) dX12_arrange_0 (by decide) ?_
  refine zs_istore (lv' := [(4, .int (nI 1)), (0, .ref q), (1, .int (nI d)), (2, .int (nI t)), (3, .ref q2)]) dX12_arrange_1 (Nat.le_of_ble_eq_true rfl) rfl ?_
  refine zs_iconst (v := nI 0) dX12_arrange_3 (by decide) ?_
  refine zs_istore (lv' := [(5, .int (nI 0)), (4, .int (nI 1)), (0, .ref q), (1, .int (nI d)), (2, .int (nI t)), (3, .ref q2)]) dX12_arrange_4 (Nat.le_of_ble_eq_true rfl) rfl ?_
  refine zs_lv [2, 3, 4, 5, 1, 0] rfl ?_
  refine zs_eq (K' := [(q, .inl (0, n, .inl (nF f))), (q2, .inl (0, n, .inl (nF (aG f g n d t 0))))]) (by rw [aG_0]) ?_
  refine lp_ar q q2 n d t f g hn hdt hd ht hf ?_ n 0 (Nat.zero_add _)
  exact zs_vret dX12_arrange_81 rfl ⟨rfl, by rw [aG_n hdt hn.1 hd ht]⟩
