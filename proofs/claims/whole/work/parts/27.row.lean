/-! ===== PailRow.Row: work, heap, begin, made ===== -/
def cWork (back spill hold : Nat) (pww : Nat → Nat) : Nat → zRs → zRs
  | 0, s => s
  | n + 1, s => cTick back spill hold pww (cWork back spill hold pww n s)
theorem dX5_work_0 : decode cX5_work 0 = .ok (.iconst 0, 1) := by decide +kernel
theorem dX5_work_1 : decode cX5_work 1 = .ok (.istore_n 2, 1) := by decide +kernel
theorem dX5_work_2 : decode cX5_work 2 = .ok (.iload_n 2, 1) := by decide +kernel
theorem dX5_work_3 : decode cX5_work 3 = .ok (.iload_n 1, 1) := by decide +kernel
theorem dX5_work_4 : decode cX5_work 4 = .ok (.if_icmp .ge 13, 3) := by decide +kernel
theorem dX5_work_7 : decode cX5_work 7 = .ok (.aload_n 0, 1) := by decide +kernel
theorem dX5_work_8 : decode cX5_work 8 = .ok (.invokevirtual 86, 3) := by decide +kernel
theorem dX5_work_11 : decode cX5_work 11 = .ok (.iinc 2 1, 3) := by decide +kernel
theorem dX5_work_14 : decode cX5_work 14 = .ok (.goto (-12), 3) := by decide +kernel
theorem dX5_work_17 : decode cX5_work 17 = .ok (.return_, 1) := by decide +kernel
theorem cWork_J {Y : Nat → Nat} {pww : Nat → Nat} {n : Nat} {J : Nat → zRs → Prop} (hJ1 : ∀ t s, t < n → J t s → J (t + 1) (cTick (Y 11) (Y 10) (Y 7) pww s)) {s : zRs} (h0 : J 0 s) : ∀ i, i ≤ n → J i (cWork (Y 11) (Y 10) (Y 7) pww i s)
  | 0, _ => h0
  | i + 1, h => hJ1 i _ (by omega) (cWork_J hJ1 h0 i (by omega))
set_option maxRecDepth 100000 in
theorem lp_work {l : Launch} {dd : Nat} {Po : zPo} {K0 : zK} {h0 : List va_E} {Xo : zK → Prop} {Gc : zG → Prop} (ro y : Nat) (ar ay : Nat → Nat) (s : zRs) (Y : Nat → Nat) (wi : Int32) (nm : Nat → Int32) (hdd pcc pww : Nat → Nat) (yf yb : Nat → Int32) (n : Nat) (hd : 3 ≤ dd) (hn : n ≤ 3600) (hY6 : 1 ≤ Y 7 ∧ Y 7 ≤ 20) (hY10 : Y 10 ≤ 99) (hY11 : Y 11 ≤ 99) (hpw : ∀ j, j < 12 → pww j ≤ 99) (J : Nat → zRs → Prop) (I : Nat → Nat → zRs → Prop) (hJm : ∀ t s, J t s → 1 ≤ s.1 1 ∧ s.1 1 ≤ 12) (hJ0 : ∀ t s, t < n → J t s → I t (s.1 1) (cT0 s)) (hI : ∀ t k s, I t k s → cI 1000000 s) (hP : ∀ t s p, I t (p + 1) s → p < s.1 1 → I t p (cPl (Y 11) (Y 10) (Y 7) pww s p)) (hJ1 : ∀ t s, t < n → J t s → J (t + 1) (cTick (Y 11) (Y 10) (Y 7) pww s)) (hJ : ∀ i, i ≤ n → J i (cWork (Y 11) (Y 10) (Y 7) pww i s))
    (hk : zS (l, mX5_work, dd, Po, K0, h0, Xo, Gc) 0 0 17 [(0, .ref ro), (1, .int (nI n)), (2, .int (nI n))] [] [(ro, .inr (4, fRow ar (nF (cWork (Y 11) (Y 10) (Y 7) pww n s).1) (.ref y))), (ar 1, .inl (0, 12, .inl (nF ((cWork (Y 11) (Y 10) (Y 7) pww n s).2 1)))), (ar 2, .inl (0, 12, .inl (nF ((cWork (Y 11) (Y 10) (Y 7) pww n s).2 2)))), (ar 3, .inl (0, 12, .inl (nF ((cWork (Y 11) (Y 10) (Y 7) pww n s).2 3)))), (ar 4, .inl (0, 12, .inl (nF ((cWork (Y 11) (Y 10) (Y 7) pww n s).2 4)))), (ar 5, .inl (0, 12, .inl (nF ((cWork (Y 11) (Y 10) (Y 7) pww n s).2 5)))), (ar 6, .inl (0, 360, .inl (nF ((cWork (Y 11) (Y 10) (Y 7) pww n s).2 6)))), (ar 7, .inl (0, 12, .inl (nF ((cWork (Y 11) (Y 10) (Y 7) pww n s).2 7)))), (ar 8, .inl (0, 12, .inl (nF ((cWork (Y 11) (Y 10) (Y 7) pww n s).2 8)))), (ar 9, .inl (0, 12, .inl (nF ((cWork (Y 11) (Y 10) (Y 7) pww n s).2 9)))), (ar 10, .inl (0, 100, .inl (nF ((cWork (Y 11) (Y 10) (Y 7) pww n s).2 10)))), (y, .inr (9, fYard ay (ysN Y wi))), (ay 1, .inl (0, 12, .inl nm)), (ay 2, .inl (0, 12, .inl (nF hdd))), (ay 3, .inl (0, 12, .inl (nF pcc))), (ay 4, .inl (0, 12, .inl (nF pww))), (ay 5, .inl (0, 64, .inl yf)), (ay 6, .inl (1, 64, .inl yb))]) :
    ∀ (m i : Nat) , i + m = n → zS (l, mX5_work, dd, Po, K0, h0, Xo, Gc) 0 0 2 [(0, .ref ro), (1, .int (nI n)), (2, .int (nI i))] [] [(ro, .inr (4, fRow ar (nF (cWork (Y 11) (Y 10) (Y 7) pww i s).1) (.ref y))), (ar 1, .inl (0, 12, .inl (nF ((cWork (Y 11) (Y 10) (Y 7) pww i s).2 1)))), (ar 2, .inl (0, 12, .inl (nF ((cWork (Y 11) (Y 10) (Y 7) pww i s).2 2)))), (ar 3, .inl (0, 12, .inl (nF ((cWork (Y 11) (Y 10) (Y 7) pww i s).2 3)))), (ar 4, .inl (0, 12, .inl (nF ((cWork (Y 11) (Y 10) (Y 7) pww i s).2 4)))), (ar 5, .inl (0, 12, .inl (nF ((cWork (Y 11) (Y 10) (Y 7) pww i s).2 5)))), (ar 6, .inl (0, 360, .inl (nF ((cWork (Y 11) (Y 10) (Y 7) pww i s).2 6)))), (ar 7, .inl (0, 12, .inl (nF ((cWork (Y 11) (Y 10) (Y 7) pww i s).2 7)))), (ar 8, .inl (0, 12, .inl (nF ((cWork (Y 11) (Y 10) (Y 7) pww i s).2 8)))), (ar 9, .inl (0, 12, .inl (nF ((cWork (Y 11) (Y 10) (Y 7) pww i s).2 9)))), (ar 10, .inl (0, 100, .inl (nF ((cWork (Y 11) (Y 10) (Y 7) pww i s).2 10)))), (y, .inr (9, fYard ay (ysN Y wi))), (ay 1, .inl (0, 12, .inl nm)), (ay 2, .inl (0, 12, .inl (nF hdd))), (ay 3, .inl (0, 12, .inl (nF pcc))), (ay 4, .inl (0, 12, .inl (nF pww))), (ay 5, .inl (0, 64, .inl yf)), (ay 6, .inl (1, 64, .inl yb))] := by
  intro m
  induction m with
  | zero =>
    intro i hi
    have hin : i = n := by omega
    subst hin
    refine zs_iload_n dX5_work_2 rfl ?_
    refine zs_iload_n dX5_work_3 rfl ?_
    refine zs_icmp_ge (tgt := 17) dX5_work_4 (by decide) (fun c_1 => ?_) (fun c_1 => (c_1 (Int32.le_refl _) : False).elim)
    exact hk
  | succ m ih =>
    intro i hi
    have hin : i < n := by omega
    refine zs_iload_n dX5_work_2 rfl ?_
    refine zs_iload_n dX5_work_3 rfl ?_
    refine zs_icmp_ge (tgt := 17) dX5_work_4 (by decide) (fun c_1 => (nI_ge hin (by omega) c_1 : False).elim) (fun c_1 => ?_)
    refine zs_aload_n dX5_work_7 rfl rfl ?_
    refine zs_callV (M := mX5_workTick) (As := []) (st := []) (Kc := [(ro, .inr (4, fRow ar (nF (cWork (Y 11) (Y 10) (Y 7) pww i s).1) (.ref y))), (ar 1, .inl (0, 12, .inl (nF ((cWork (Y 11) (Y 10) (Y 7) pww i s).2 1)))), (ar 2, .inl (0, 12, .inl (nF ((cWork (Y 11) (Y 10) (Y 7) pww i s).2 2)))), (ar 3, .inl (0, 12, .inl (nF ((cWork (Y 11) (Y 10) (Y 7) pww i s).2 3)))), (ar 4, .inl (0, 12, .inl (nF ((cWork (Y 11) (Y 10) (Y 7) pww i s).2 4)))), (ar 5, .inl (0, 12, .inl (nF ((cWork (Y 11) (Y 10) (Y 7) pww i s).2 5)))), (ar 6, .inl (0, 360, .inl (nF ((cWork (Y 11) (Y 10) (Y 7) pww i s).2 6)))), (ar 7, .inl (0, 12, .inl (nF ((cWork (Y 11) (Y 10) (Y 7) pww i s).2 7)))), (ar 8, .inl (0, 12, .inl (nF ((cWork (Y 11) (Y 10) (Y 7) pww i s).2 8)))), (ar 9, .inl (0, 12, .inl (nF ((cWork (Y 11) (Y 10) (Y 7) pww i s).2 9)))), (ar 10, .inl (0, 100, .inl (nF ((cWork (Y 11) (Y 10) (Y 7) pww i s).2 10)))), (y, .inr (9, fYard ay (ysN Y wi))), (ay 1, .inl (0, 12, .inl nm)), (ay 2, .inl (0, 12, .inl (nF hdd))), (ay 3, .inl (0, 12, .inl (nF pcc))), (ay 4, .inl (0, 12, .inl (nF pww))), (ay 5, .inl (0, 64, .inl yf)), (ay 6, .inl (1, 64, .inl yb))]) (Kr := []) [0, 1, 2, 3, 4, 5, 6, 7, 8, 9, 10, 11, 12, 13, 14, 15, 16, 17] [] 0 dX5_work_8 zl_RX5_86 kX5_workTick rfl rfl rfl rfl rfl (by decide) rfl rfl (show dd - 1 + 1 ≤ dd by omega) (Nat.zero_le _) (Nat.zero_le _) (Nat.le_of_ble_eq_true rfl) (s_workTick l (dd - 1) ro y ar ay (cWork (Y 11) (Y 10) (Y 7) pww i s) Y wi nm hdd pcc pww yf yb (by omega) hY6 hY10 hY11 hpw (I i) (hI i) (hP i) (hJ0 i _ hin (hJ i (by omega))) (hJm i _ (hJ i (by omega)))) (fun r K1 hr => ?_)
    obtain ⟨rfl, rfl⟩ := hr
    refine zs_K (K' := [(ro, .inr (4, fRow ar (nF (cTick (Y 11) (Y 10) (Y 7) pww (cWork (Y 11) (Y 10) (Y 7) pww i s)).1) (.ref y))), (ar 1, .inl (0, 12, .inl (nF ((cTick (Y 11) (Y 10) (Y 7) pww (cWork (Y 11) (Y 10) (Y 7) pww i s)).2 1)))), (ar 2, .inl (0, 12, .inl (nF ((cTick (Y 11) (Y 10) (Y 7) pww (cWork (Y 11) (Y 10) (Y 7) pww i s)).2 2)))), (ar 3, .inl (0, 12, .inl (nF ((cTick (Y 11) (Y 10) (Y 7) pww (cWork (Y 11) (Y 10) (Y 7) pww i s)).2 3)))), (ar 4, .inl (0, 12, .inl (nF ((cTick (Y 11) (Y 10) (Y 7) pww (cWork (Y 11) (Y 10) (Y 7) pww i s)).2 4)))), (ar 5, .inl (0, 12, .inl (nF ((cTick (Y 11) (Y 10) (Y 7) pww (cWork (Y 11) (Y 10) (Y 7) pww i s)).2 5)))), (ar 6, .inl (0, 360, .inl (nF ((cTick (Y 11) (Y 10) (Y 7) pww (cWork (Y 11) (Y 10) (Y 7) pww i s)).2 6)))), (ar 7, .inl (0, 12, .inl (nF ((cTick (Y 11) (Y 10) (Y 7) pww (cWork (Y 11) (Y 10) (Y 7) pww i s)).2 7)))), (ar 8, .inl (0, 12, .inl (nF ((cTick (Y 11) (Y 10) (Y 7) pww (cWork (Y 11) (Y 10) (Y 7) pww i s)).2 8)))), (ar 9, .inl (0, 12, .inl (nF ((cTick (Y 11) (Y 10) (Y 7) pww (cWork (Y 11) (Y 10) (Y 7) pww i s)).2 9)))), (ar 10, .inl (0, 100, .inl (nF ((cTick (Y 11) (Y 10) (Y 7) pww (cWork (Y 11) (Y 10) (Y 7) pww i s)).2 10)))), (y, .inr (9, fYard ay (ysN Y wi))), (ay 1, .inl (0, 12, .inl nm)), (ay 2, .inl (0, 12, .inl (nF hdd))), (ay 3, .inl (0, 12, .inl (nF pcc))), (ay 4, .inl (0, 12, .inl (nF pww))), (ay 5, .inl (0, 64, .inl yf)), (ay 6, .inl (1, 64, .inl yb))]) [0, 1, 2, 3, 4, 5, 6, 7, 8, 9, 10, 11, 12, 13, 14, 15, 16, 17] rfl (by decide) ?_
    refine zs_iinc (v := (nI (i + 1))) (lv' := [(2, .int (nI (i + 1))), (0, .ref ro), (1, .int (nI n))]) dX5_work_11 rfl (nI_add _ 1) (Nat.le_of_ble_eq_true rfl) rfl ?_
    refine zs_goto (tgt := 2) dX5_work_14 (by decide) ?_
    refine zs_lv [1, 2, 0] rfl ?_
    exact ih (i + 1) (by omega)
set_option maxRecDepth 100000 in
theorem s_rowWork (l : Launch) (dd : Nat) (ro y : Nat) (ar ay : Nat → Nat) (s : zRs) (Y : Nat → Nat) (wi : Int32) (nm : Nat → Int32) (hdd pcc pww : Nat → Nat) (yf yb : Nat → Int32) (n : Nat) (hd : 3 ≤ dd) (hn : n ≤ 3600) (hY6 : 1 ≤ Y 7 ∧ Y 7 ≤ 20) (hY10 : Y 10 ≤ 99) (hY11 : Y 11 ≤ 99) (hpw : ∀ j, j < 12 → pww j ≤ 99) (J : Nat → zRs → Prop) (I : Nat → Nat → zRs → Prop) (hJm : ∀ t s, J t s → 1 ≤ s.1 1 ∧ s.1 1 ≤ 12) (hJ0 : ∀ t s, t < n → J t s → I t (s.1 1) (cT0 s)) (hI : ∀ t k s, I t k s → cI 1000000 s) (hP : ∀ t s p, I t (p + 1) s → p < s.1 1 → I t p (cPl (Y 11) (Y 10) (Y 7) pww s p)) (hJ1 : ∀ t s, t < n → J t s → J (t + 1) (cTick (Y 11) (Y 10) (Y 7) pww s)) (hJs : J 0 s) : zSp l mX5_work dd 0 0 [.ref ro, .int (nI n)] [(ro, .inr (4, fRow ar (nF s.1) (.ref y))), (ar 1, .inl (0, 12, .inl (nF (s.2 1)))), (ar 2, .inl (0, 12, .inl (nF (s.2 2)))), (ar 3, .inl (0, 12, .inl (nF (s.2 3)))), (ar 4, .inl (0, 12, .inl (nF (s.2 4)))), (ar 5, .inl (0, 12, .inl (nF (s.2 5)))), (ar 6, .inl (0, 360, .inl (nF (s.2 6)))), (ar 7, .inl (0, 12, .inl (nF (s.2 7)))), (ar 8, .inl (0, 12, .inl (nF (s.2 8)))), (ar 9, .inl (0, 12, .inl (nF (s.2 9)))), (ar 10, .inl (0, 100, .inl (nF (s.2 10)))), (y, .inr (9, fYard ay (ysN Y wi))), (ay 1, .inl (0, 12, .inl nm)), (ay 2, .inl (0, 12, .inl (nF hdd))), (ay 3, .inl (0, 12, .inl (nF pcc))), (ay 4, .inl (0, 12, .inl (nF pww))), (ay 5, .inl (0, 64, .inl yf)), (ay 6, .inl (1, 64, .inl yb))] (fun r K' => r = none ∧ K' = kRow ro ar (.ref y) (cWork (Y 11) (Y 10) (Y 7) pww n s) ++ kYrd y ay Y wi nm hdd pcc pww yf yb) := by
  refine zSp.of (by decide) (Nat.le_of_ble_eq_true rfl) (fun h0 => ?_)
  show zS _ 0 0 0 [(0, .ref ro), (1, .int (nI n))] [] [(ro, .inr (4, fRow ar (nF s.1) (.ref y))), (ar 1, .inl (0, 12, .inl (nF (s.2 1)))), (ar 2, .inl (0, 12, .inl (nF (s.2 2)))), (ar 3, .inl (0, 12, .inl (nF (s.2 3)))), (ar 4, .inl (0, 12, .inl (nF (s.2 4)))), (ar 5, .inl (0, 12, .inl (nF (s.2 5)))), (ar 6, .inl (0, 360, .inl (nF (s.2 6)))), (ar 7, .inl (0, 12, .inl (nF (s.2 7)))), (ar 8, .inl (0, 12, .inl (nF (s.2 8)))), (ar 9, .inl (0, 12, .inl (nF (s.2 9)))), (ar 10, .inl (0, 100, .inl (nF (s.2 10)))), (y, .inr (9, fYard ay (ysN Y wi))), (ay 1, .inl (0, 12, .inl nm)), (ay 2, .inl (0, 12, .inl (nF hdd))), (ay 3, .inl (0, 12, .inl (nF pcc))), (ay 4, .inl (0, 12, .inl (nF pww))), (ay 5, .inl (0, 64, .inl yf)), (ay 6, .inl (1, 64, .inl yb))]
  refine zs_iconst (v := nI 0) dX5_work_0 (by decide) ?_
  refine zs_istore_n (lv' := [(2, .int (nI 0)), (0, .ref ro), (1, .int (nI n))]) dX5_work_1 (Nat.le_of_ble_eq_true rfl) rfl ?_
  refine zs_lv [1, 2, 0] rfl ?_
  refine lp_work ro y ar ay s Y wi nm hdd pcc pww yf yb n hd hn hY6 hY10 hY11 hpw J I hJm hJ0 hI hP hJ1 (cWork_J hJ1 hJs) ?_ n 0 (by omega)
  exact zs_vret dX5_work_17 rfl ⟨rfl, rfl⟩
/-- the place, and how many, of the first k places: the first of the greatest -/
def cHp (N : Nat → Nat) : Nat → Nat × Nat
  | 0 => (0, 0)
  | k + 1 => if k = 0 then (0, 0) else if (cHp N k).2 < N k then (k, N k) else cHp N k
theorem cHp_b {N : Nat → Nat} {b : Nat} (h : ∀ p, p < 12 → N p ≤ b) : ∀ k, k ≤ 12 → (cHp N k).2 ≤ b ∧ (cHp N k).1 < 12
  | 0, _ => ⟨Nat.zero_le _, by simp only [cHp]; omega⟩
  | k + 1, hk => by
    simp only [cHp]
    split
    · exact ⟨Nat.zero_le _, by omega⟩
    · split
      · exact ⟨h k (by omega), by show k < 12; omega⟩
      · exact cHp_b h k (by omega)
theorem cHp_f {N : Nat → Nat} : ∀ k, (cHp N k).2 = if (cHp N k).1 = 0 then 0 else N (cHp N k).1
  | 0 => rfl
  | k + 1 => by
    simp only [cHp]
    by_cases h1 : k = 0
    · simp only [if_pos h1, if_true]
    · simp only [if_neg h1]
      by_cases h2 : (cHp N k).2 < N k
      · simp only [if_pos h2, if_neg h1]
      · simp only [if_neg h2]
        exact cHp_f k
theorem dX5_heapPlace_0 : decode cX5_heapPlace 0 = .ok (.iconst 0, 1) := by decide +kernel
theorem dX5_heapPlace_1 : decode cX5_heapPlace 1 = .ok (.istore_n 1, 1) := by decide +kernel
theorem dX5_heapPlace_2 : decode cX5_heapPlace 2 = .ok (.iconst 0, 1) := by decide +kernel
theorem dX5_heapPlace_3 : decode cX5_heapPlace 3 = .ok (.istore_n 2, 1) := by decide +kernel
theorem dX5_heapPlace_4 : decode cX5_heapPlace 4 = .ok (.iconst 1, 1) := by decide +kernel
theorem dX5_heapPlace_5 : decode cX5_heapPlace 5 = .ok (.istore_n 3, 1) := by decide +kernel
theorem dX5_heapPlace_6 : decode cX5_heapPlace 6 = .ok (.iload_n 3, 1) := by decide +kernel
theorem dX5_heapPlace_7 : decode cX5_heapPlace 7 = .ok (.aload_n 0, 1) := by decide +kernel
theorem dX5_heapPlace_8 : decode cX5_heapPlace 8 = .ok (.getfield 52, 3) := by decide +kernel
theorem dX5_heapPlace_11 : decode cX5_heapPlace 11 = .ok (.if_icmp .ge 28, 3) := by decide +kernel
theorem dX5_heapPlace_14 : decode cX5_heapPlace 14 = .ok (.aload_n 0, 1) := by decide +kernel
theorem dX5_heapPlace_15 : decode cX5_heapPlace 15 = .ok (.getfield 36, 3) := by decide +kernel
theorem dX5_heapPlace_18 : decode cX5_heapPlace 18 = .ok (.iload_n 3, 1) := by decide +kernel
theorem dX5_heapPlace_19 : decode cX5_heapPlace 19 = .ok (.iaload, 1) := by decide +kernel
theorem dX5_heapPlace_20 : decode cX5_heapPlace 20 = .ok (.iload_n 2, 1) := by decide +kernel
theorem dX5_heapPlace_21 : decode cX5_heapPlace 21 = .ok (.if_icmp .le 12, 3) := by decide +kernel
theorem dX5_heapPlace_24 : decode cX5_heapPlace 24 = .ok (.aload_n 0, 1) := by decide +kernel
theorem dX5_heapPlace_25 : decode cX5_heapPlace 25 = .ok (.getfield 36, 3) := by decide +kernel
theorem dX5_heapPlace_28 : decode cX5_heapPlace 28 = .ok (.iload_n 3, 1) := by decide +kernel
theorem dX5_heapPlace_29 : decode cX5_heapPlace 29 = .ok (.iaload, 1) := by decide +kernel
theorem dX5_heapPlace_30 : decode cX5_heapPlace 30 = .ok (.istore_n 2, 1) := by decide +kernel
theorem dX5_heapPlace_31 : decode cX5_heapPlace 31 = .ok (.iload_n 3, 1) := by decide +kernel
theorem dX5_heapPlace_32 : decode cX5_heapPlace 32 = .ok (.istore_n 1, 1) := by decide +kernel
theorem dX5_heapPlace_33 : decode cX5_heapPlace 33 = .ok (.iinc 3 1, 3) := by decide +kernel
theorem dX5_heapPlace_36 : decode cX5_heapPlace 36 = .ok (.goto (-30), 3) := by decide +kernel
theorem dX5_heapPlace_39 : decode cX5_heapPlace 39 = .ok (.iload_n 1, 1) := by decide +kernel
theorem dX5_heapPlace_40 : decode cX5_heapPlace 40 = .ok (.ireturn, 1) := by decide +kernel
set_option maxRecDepth 100000 in
theorem lp_heap {l : Launch} {dd : Nat} {Po : zPo} {K0 : zK} {h0 : List va_E} {Xo : zK → Prop} {Gc : zG → Prop} (ro : Nat) (ar : Nat → Nat) (yv : Value) (s : zRs) (hm : 1 ≤ s.1 1 ∧ s.1 1 ≤ 12) (h9 : ∀ p, p < 12 → s.2 9 p ≤ 30)
    (hk : zS (l, mX5_heapPlace, dd, Po, K0, h0, Xo, Gc) 0 0 39 [(0, .ref ro), (1, .int (nI (cHp (s.2 9) (s.1 1)).1)), (2, .int (nI (cHp (s.2 9) (s.1 1)).2)), (3, .int (nI (s.1 1)))] [] [(ro, .inr (4, fRow ar (nF s.1) yv)), (ar 1, .inl (0, 12, .inl (nF (s.2 1)))), (ar 2, .inl (0, 12, .inl (nF (s.2 2)))), (ar 3, .inl (0, 12, .inl (nF (s.2 3)))), (ar 4, .inl (0, 12, .inl (nF (s.2 4)))), (ar 5, .inl (0, 12, .inl (nF (s.2 5)))), (ar 6, .inl (0, 360, .inl (nF (s.2 6)))), (ar 7, .inl (0, 12, .inl (nF (s.2 7)))), (ar 8, .inl (0, 12, .inl (nF (s.2 8)))), (ar 9, .inl (0, 12, .inl (nF (s.2 9)))), (ar 10, .inl (0, 100, .inl (nF (s.2 10))))]) :
    ∀ (m i : Nat) , i + m = s.1 1 → 1 ≤ i → zS (l, mX5_heapPlace, dd, Po, K0, h0, Xo, Gc) 0 0 6 [(0, .ref ro), (1, .int (nI (cHp (s.2 9) i).1)), (2, .int (nI (cHp (s.2 9) i).2)), (3, .int (nI i))] [] [(ro, .inr (4, fRow ar (nF s.1) yv)), (ar 1, .inl (0, 12, .inl (nF (s.2 1)))), (ar 2, .inl (0, 12, .inl (nF (s.2 2)))), (ar 3, .inl (0, 12, .inl (nF (s.2 3)))), (ar 4, .inl (0, 12, .inl (nF (s.2 4)))), (ar 5, .inl (0, 12, .inl (nF (s.2 5)))), (ar 6, .inl (0, 360, .inl (nF (s.2 6)))), (ar 7, .inl (0, 12, .inl (nF (s.2 7)))), (ar 8, .inl (0, 12, .inl (nF (s.2 8)))), (ar 9, .inl (0, 12, .inl (nF (s.2 9)))), (ar 10, .inl (0, 100, .inl (nF (s.2 10))))] := by
  intro m
  induction m with
  | zero =>
    intro i hi h1
    have hin : i = s.1 1 := by omega
    subst hin
    refine zs_iload_n dX5_heapPlace_6 rfl ?_
    refine zs_aload_n dX5_heapPlace_7 rfl rfl ?_
    refine zs_get 0 dX5_heapPlace_8 zf_RX5_52 rfl (v := .int (nI (s.1 1))) rfl ?_
    refine zs_icmp_ge (tgt := 39) dX5_heapPlace_11 (by decide) (fun c_1 => ?_) (fun c_1 => (c_1 (Int32.le_refl _) : False).elim)
    exact hk
  | succ m ih =>
    intro i hi h1
    have hin : i < s.1 1 := by omega
    have b9 := h9 i (by omega)
    have bc := (cHp_b h9 i (by omega)).1
    refine zs_iload_n dX5_heapPlace_6 rfl ?_
    refine zs_aload_n dX5_heapPlace_7 rfl rfl ?_
    refine zs_get 0 dX5_heapPlace_8 zf_RX5_52 rfl (v := .int (nI (s.1 1))) rfl ?_
    refine zs_icmp_ge (tgt := 39) dX5_heapPlace_11 (by decide) (fun c_1 => (nI_ge hin (by omega) c_1 : False).elim) (fun c_1 => ?_)
    refine zs_aload_n dX5_heapPlace_14 rfl rfl ?_
    refine zs_get 0 dX5_heapPlace_15 zf_RX5_36 rfl (v := .ref (ar 9)) rfl ?_
    refine zs_iload_n dX5_heapPlace_18 rfl ?_
    refine zs_iald 9 dX5_heapPlace_19 rfl (vp_in_nI (by omega) (by omega)) ?_
    refine zs_as (y := nI ((s.2 9) i)) (by rw [nI_c (n := i) (by omega)]; rfl) ?_
    refine zs_iload_n dX5_heapPlace_20 rfl ?_
    refine zs_icmp_le (tgt := 33) dX5_heapPlace_21 (by decide) (fun c_2 => ?_) (fun c_2 => ?_)
    · have c_2 : ((s.2 9) i) ≤ ((cHp (s.2 9) i).2) := by have hc := c_2; rw [nI_le' (by omega) (by omega)] at hc; exact hc
      refine zs_iinc (v := (nI (i + 1))) (lv' := [(3, .int (nI (i + 1))), (0, .ref ro), (1, .int (nI (cHp (s.2 9) i).1)), (2, .int (nI (cHp (s.2 9) i).2))]) dX5_heapPlace_33 rfl (nI_add _ 1) (Nat.le_of_ble_eq_true rfl) rfl ?_
      refine zs_goto (tgt := 6) dX5_heapPlace_36 (by decide) ?_
      refine zs_lv [1, 2, 3, 0] rfl ?_
      have hn := ih (i + 1) (by omega) (by omega)
      simp only [cHp, if_neg (show ¬ i = 0 by omega), if_neg (show ¬ (cHp (s.2 9) i).2 < s.2 9 i by omega)] at hn
      exact hn
    · have c_2 : ¬ (((s.2 9) i) ≤ ((cHp (s.2 9) i).2)) := by have hc := c_2; rw [nI_le' (by omega) (by omega)] at hc; exact hc
      refine zs_aload_n dX5_heapPlace_24 rfl rfl ?_
      refine zs_get 0 dX5_heapPlace_25 zf_RX5_36 rfl (v := .ref (ar 9)) rfl ?_
      refine zs_iload_n dX5_heapPlace_28 rfl ?_
      refine zs_iald 9 dX5_heapPlace_29 rfl (vp_in_nI (by omega) (by omega)) ?_
      refine zs_as (y := nI ((s.2 9) i)) (by rw [nI_c (n := i) (by omega)]; rfl) ?_
      refine zs_istore_n (lv' := [(2, .int (nI ((s.2 9) i))), (0, .ref ro), (1, .int (nI (cHp (s.2 9) i).1)), (3, .int (nI i))]) dX5_heapPlace_30 (Nat.le_of_ble_eq_true rfl) rfl ?_
      refine zs_iload_n dX5_heapPlace_31 rfl ?_
      refine zs_istore_n (lv' := [(1, .int (nI i)), (2, .int (nI ((s.2 9) i))), (0, .ref ro), (3, .int (nI i))]) dX5_heapPlace_32 (Nat.le_of_ble_eq_true rfl) rfl ?_
      refine zs_iinc (v := (nI (i + 1))) (lv' := [(3, .int (nI (i + 1))), (1, .int (nI i)), (2, .int (nI ((s.2 9) i))), (0, .ref ro)]) dX5_heapPlace_33 rfl (nI_add _ 1) (Nat.le_of_ble_eq_true rfl) rfl ?_
      refine zs_goto (tgt := 6) dX5_heapPlace_36 (by decide) ?_
      refine zs_lv [3, 1, 2, 0] rfl ?_
      have hn := ih (i + 1) (by omega) (by omega)
      simp only [cHp, if_neg (show ¬ i = 0 by omega), if_pos (show (cHp (s.2 9) i).2 < s.2 9 i by omega)] at hn
      exact hn
set_option maxRecDepth 100000 in
theorem s_heapPlace (l : Launch) (dd : Nat) (ro : Nat) (ar : Nat → Nat) (yv : Value) (s : zRs) (hm : 1 ≤ s.1 1 ∧ s.1 1 ≤ 12) (h9 : ∀ p, p < 12 → s.2 9 p ≤ 30) : zSp l mX5_heapPlace dd 0 0 [.ref ro] [(ro, .inr (4, fRow ar (nF s.1) yv)), (ar 1, .inl (0, 12, .inl (nF (s.2 1)))), (ar 2, .inl (0, 12, .inl (nF (s.2 2)))), (ar 3, .inl (0, 12, .inl (nF (s.2 3)))), (ar 4, .inl (0, 12, .inl (nF (s.2 4)))), (ar 5, .inl (0, 12, .inl (nF (s.2 5)))), (ar 6, .inl (0, 360, .inl (nF (s.2 6)))), (ar 7, .inl (0, 12, .inl (nF (s.2 7)))), (ar 8, .inl (0, 12, .inl (nF (s.2 8)))), (ar 9, .inl (0, 12, .inl (nF (s.2 9)))), (ar 10, .inl (0, 100, .inl (nF (s.2 10))))] (fun r K' => r = some (.int (nI (cHp (s.2 9) (s.1 1)).1)) ∧ K' = kRow ro ar yv s) := by
  refine zSp.of (by decide) (Nat.le_of_ble_eq_true rfl) (fun h0 => ?_)
  show zS _ 0 0 0 [(0, .ref ro)] [] [(ro, .inr (4, fRow ar (nF s.1) yv)), (ar 1, .inl (0, 12, .inl (nF (s.2 1)))), (ar 2, .inl (0, 12, .inl (nF (s.2 2)))), (ar 3, .inl (0, 12, .inl (nF (s.2 3)))), (ar 4, .inl (0, 12, .inl (nF (s.2 4)))), (ar 5, .inl (0, 12, .inl (nF (s.2 5)))), (ar 6, .inl (0, 360, .inl (nF (s.2 6)))), (ar 7, .inl (0, 12, .inl (nF (s.2 7)))), (ar 8, .inl (0, 12, .inl (nF (s.2 8)))), (ar 9, .inl (0, 12, .inl (nF (s.2 9)))), (ar 10, .inl (0, 100, .inl (nF (s.2 10))))]
  refine zs_iconst (v := nI 0) dX5_heapPlace_0 (by decide) ?_
  refine zs_istore_n (lv' := [(1, .int (nI 0)), (0, .ref ro)]) dX5_heapPlace_1 (Nat.le_of_ble_eq_true rfl) rfl ?_
  refine zs_iconst (v := nI 0) dX5_heapPlace_2 (by decide) ?_
  refine zs_istore_n (lv' := [(2, .int (nI 0)), (1, .int (nI 0)), (0, .ref ro)]) dX5_heapPlace_3 (Nat.le_of_ble_eq_true rfl) rfl ?_
  refine zs_iconst (v := nI 1) dX5_heapPlace_4 (by decide) ?_
  refine zs_istore_n (lv' := [(3, .int (nI 1)), (2, .int (nI 0)), (1, .int (nI 0)), (0, .ref ro)]) dX5_heapPlace_5 (Nat.le_of_ble_eq_true rfl) rfl ?_
  refine zs_lv [3, 2, 1, 0] rfl ?_
  refine lp_heap ro ar yv s hm h9 ?_ (s.1 1 - 1) 1 (by omega) (Nat.le_refl _)
  refine zs_iload_n dX5_heapPlace_39 rfl ?_
  exact zs_iret dX5_heapPlace_40 rfl ⟨rfl, rfl⟩
theorem dX5_heap_0 : decode cX5_heap 0 = .ok (.aload_n 0, 1) := by decide +kernel
theorem dX5_heap_1 : decode cX5_heap 1 = .ok (.invokevirtual 111, 3) := by decide +kernel
theorem dX5_heap_4 : decode cX5_heap 4 = .ok (.istore_n 1, 1) := by decide +kernel
theorem dX5_heap_5 : decode cX5_heap 5 = .ok (.iload_n 1, 1) := by decide +kernel
theorem dX5_heap_6 : decode cX5_heap 6 = .ok (.ifCond .ne 7, 3) := by decide +kernel
theorem dX5_heap_9 : decode cX5_heap 9 = .ok (.iconst 0, 1) := by decide +kernel
theorem dX5_heap_10 : decode cX5_heap 10 = .ok (.goto 9, 3) := by decide +kernel
theorem dX5_heap_13 : decode cX5_heap 13 = .ok (.aload_n 0, 1) := by decide +kernel
theorem dX5_heap_14 : decode cX5_heap 14 = .ok (.getfield 36, 3) := by decide +kernel
theorem dX5_heap_17 : decode cX5_heap 17 = .ok (.iload_n 1, 1) := by decide +kernel
theorem dX5_heap_18 : decode cX5_heap 18 = .ok (.iaload, 1) := by decide +kernel
theorem dX5_heap_19 : decode cX5_heap 19 = .ok (.ireturn, 1) := by decide +kernel
set_option maxRecDepth 100000 in
theorem s_heap (l : Launch) (dd : Nat) (ro : Nat) (ar : Nat → Nat) (yv : Value) (s : zRs) (hd : 1 ≤ dd) (hm : 1 ≤ s.1 1 ∧ s.1 1 ≤ 12) (h9 : ∀ p, p < 12 → s.2 9 p ≤ 30) : zSp l mX5_heap dd 0 0 [.ref ro] [(ro, .inr (4, fRow ar (nF s.1) yv)), (ar 1, .inl (0, 12, .inl (nF (s.2 1)))), (ar 2, .inl (0, 12, .inl (nF (s.2 2)))), (ar 3, .inl (0, 12, .inl (nF (s.2 3)))), (ar 4, .inl (0, 12, .inl (nF (s.2 4)))), (ar 5, .inl (0, 12, .inl (nF (s.2 5)))), (ar 6, .inl (0, 360, .inl (nF (s.2 6)))), (ar 7, .inl (0, 12, .inl (nF (s.2 7)))), (ar 8, .inl (0, 12, .inl (nF (s.2 8)))), (ar 9, .inl (0, 12, .inl (nF (s.2 9)))), (ar 10, .inl (0, 100, .inl (nF (s.2 10))))] (fun r K' => r = some (.int (nI (cHp (s.2 9) (s.1 1)).2)) ∧ K' = kRow ro ar yv s) := by
  refine zSp.of (by decide) (Nat.le_of_ble_eq_true rfl) (fun h0 => ?_)
  show zS _ 0 0 0 [(0, .ref ro)] [] [(ro, .inr (4, fRow ar (nF s.1) yv)), (ar 1, .inl (0, 12, .inl (nF (s.2 1)))), (ar 2, .inl (0, 12, .inl (nF (s.2 2)))), (ar 3, .inl (0, 12, .inl (nF (s.2 3)))), (ar 4, .inl (0, 12, .inl (nF (s.2 4)))), (ar 5, .inl (0, 12, .inl (nF (s.2 5)))), (ar 6, .inl (0, 360, .inl (nF (s.2 6)))), (ar 7, .inl (0, 12, .inl (nF (s.2 7)))), (ar 8, .inl (0, 12, .inl (nF (s.2 8)))), (ar 9, .inl (0, 12, .inl (nF (s.2 9)))), (ar 10, .inl (0, 100, .inl (nF (s.2 10))))]
  have bc := (cHp_b h9 (s.1 1) hm.2).2
  refine zs_aload_n dX5_heap_0 rfl rfl ?_
  refine zs_callV (M := mX5_heapPlace) (As := []) (st := []) (Kc := [(ro, .inr (4, fRow ar (nF s.1) yv)), (ar 1, .inl (0, 12, .inl (nF (s.2 1)))), (ar 2, .inl (0, 12, .inl (nF (s.2 2)))), (ar 3, .inl (0, 12, .inl (nF (s.2 3)))), (ar 4, .inl (0, 12, .inl (nF (s.2 4)))), (ar 5, .inl (0, 12, .inl (nF (s.2 5)))), (ar 6, .inl (0, 360, .inl (nF (s.2 6)))), (ar 7, .inl (0, 12, .inl (nF (s.2 7)))), (ar 8, .inl (0, 12, .inl (nF (s.2 8)))), (ar 9, .inl (0, 12, .inl (nF (s.2 9)))), (ar 10, .inl (0, 100, .inl (nF (s.2 10))))]) (Kr := []) [0, 1, 2, 3, 4, 5, 6, 7, 8, 9, 10] [] 0 dX5_heap_1 zl_RX5_111 kX5_heapPlace rfl rfl rfl rfl rfl (by decide) rfl rfl (show dd - 1 + 1 ≤ dd by omega) (Nat.zero_le _) (Nat.zero_le _) (Nat.le_of_ble_eq_true rfl) (s_heapPlace l (dd - 1) ro ar yv s hm h9) (fun r K1 hr => ?_)
  obtain ⟨rfl, rfl⟩ := hr
  refine zs_K (K' := [(ro, .inr (4, fRow ar (nF s.1) yv)), (ar 1, .inl (0, 12, .inl (nF (s.2 1)))), (ar 2, .inl (0, 12, .inl (nF (s.2 2)))), (ar 3, .inl (0, 12, .inl (nF (s.2 3)))), (ar 4, .inl (0, 12, .inl (nF (s.2 4)))), (ar 5, .inl (0, 12, .inl (nF (s.2 5)))), (ar 6, .inl (0, 360, .inl (nF (s.2 6)))), (ar 7, .inl (0, 12, .inl (nF (s.2 7)))), (ar 8, .inl (0, 12, .inl (nF (s.2 8)))), (ar 9, .inl (0, 12, .inl (nF (s.2 9)))), (ar 10, .inl (0, 100, .inl (nF (s.2 10))))]) [0, 1, 2, 3, 4, 5, 6, 7, 8, 9, 10] rfl (by decide) ?_
  refine zs_istore_n (lv' := [(1, .int (nI (cHp (s.2 9) (s.1 1)).1)), (0, .ref ro)]) dX5_heap_4 (Nat.le_of_ble_eq_true rfl) rfl ?_
  refine zs_iload_n dX5_heap_5 rfl ?_
  refine zs_if_ne (tgt := 13) dX5_heap_6 (by decide) (fun c_1 => ?_) (fun c_1 => ?_)
  · have c_1 : ¬ (((cHp (s.2 9) (s.1 1)).1) = 0) := by have hc := c_1; rw [show (0 : Int32) = nI 0 from rfl] at hc; rw [nI_eq' (by omega) (by omega)] at hc; exact hc
    refine zs_aload_n dX5_heap_13 rfl rfl ?_
    refine zs_get 0 dX5_heap_14 zf_RX5_36 rfl (v := .ref (ar 9)) rfl ?_
    refine zs_iload_n dX5_heap_17 rfl ?_
    refine zs_iald 9 dX5_heap_18 rfl (vp_in_nI (by omega) (by omega)) ?_
    refine zs_as (y := nI ((s.2 9) ((cHp (s.2 9) (s.1 1)).1))) (by rw [nI_c (n := (cHp (s.2 9) (s.1 1)).1) (by omega)]; rfl) ?_
    exact zs_iret dX5_heap_19 rfl ⟨congrArg (fun z => some (Value.int z)) (by rw [cHp_f, if_neg c_1]), rfl⟩
  · have c_1 : ((cHp (s.2 9) (s.1 1)).1) = 0 := by have hc := c_1; rw [show (0 : Int32) = nI 0 from rfl] at hc; rw [nI_eq' (by omega) (by omega)] at hc; exact hc
    refine zs_iconst (v := nI 0) dX5_heap_9 (by decide) ?_
    refine zs_goto (tgt := 19) dX5_heap_10 (by decide) ?_
    exact zs_iret dX5_heap_19 rfl ⟨congrArg (fun z => some (Value.int z)) (by rw [cHp_f, if_pos c_1]), rfl⟩
theorem dX5_init_0 : decode cX5_init 0 = .ok (.aload_n 0, 1) := by decide +kernel
theorem dX5_init_1 : decode cX5_init 1 = .ok (.invokespecial 3, 3) := by decide +kernel
theorem dX5_init_4 : decode cX5_init 4 = .ok (.aload_n 0, 1) := by decide +kernel
theorem dX5_init_5 : decode cX5_init 5 = .ok (.bipush 12, 2) := by decide +kernel
theorem dX5_init_7 : decode cX5_init 7 = .ok (.newarray .int, 2) := by decide +kernel
theorem dX5_init_9 : decode cX5_init 9 = .ok (.putfield 9, 3) := by decide +kernel
theorem dX5_init_12 : decode cX5_init 12 = .ok (.aload_n 0, 1) := by decide +kernel
theorem dX5_init_13 : decode cX5_init 13 = .ok (.bipush 12, 2) := by decide +kernel
theorem dX5_init_15 : decode cX5_init 15 = .ok (.newarray .int, 2) := by decide +kernel
theorem dX5_init_17 : decode cX5_init 17 = .ok (.putfield 15, 3) := by decide +kernel
theorem dX5_init_20 : decode cX5_init 20 = .ok (.aload_n 0, 1) := by decide +kernel
theorem dX5_init_21 : decode cX5_init 21 = .ok (.bipush 12, 2) := by decide +kernel
theorem dX5_init_23 : decode cX5_init 23 = .ok (.newarray .int, 2) := by decide +kernel
theorem dX5_init_25 : decode cX5_init 25 = .ok (.putfield 18, 3) := by decide +kernel
theorem dX5_init_28 : decode cX5_init 28 = .ok (.aload_n 0, 1) := by decide +kernel
theorem dX5_init_29 : decode cX5_init 29 = .ok (.bipush 12, 2) := by decide +kernel
theorem dX5_init_31 : decode cX5_init 31 = .ok (.newarray .int, 2) := by decide +kernel
theorem dX5_init_33 : decode cX5_init 33 = .ok (.putfield 21, 3) := by decide +kernel
theorem dX5_init_36 : decode cX5_init 36 = .ok (.aload_n 0, 1) := by decide +kernel
theorem dX5_init_37 : decode cX5_init 37 = .ok (.bipush 12, 2) := by decide +kernel
theorem dX5_init_39 : decode cX5_init 39 = .ok (.newarray .int, 2) := by decide +kernel
theorem dX5_init_41 : decode cX5_init 41 = .ok (.putfield 24, 3) := by decide +kernel
theorem dX5_init_44 : decode cX5_init 44 = .ok (.aload_n 0, 1) := by decide +kernel
theorem dX5_init_45 : decode cX5_init 45 = .ok (.sipush 360, 3) := by decide +kernel
theorem dX5_init_48 : decode cX5_init 48 = .ok (.newarray .int, 2) := by decide +kernel
theorem dX5_init_50 : decode cX5_init 50 = .ok (.putfield 27, 3) := by decide +kernel
theorem dX5_init_53 : decode cX5_init 53 = .ok (.aload_n 0, 1) := by decide +kernel
theorem dX5_init_54 : decode cX5_init 54 = .ok (.bipush 12, 2) := by decide +kernel
theorem dX5_init_56 : decode cX5_init 56 = .ok (.newarray .int, 2) := by decide +kernel
theorem dX5_init_58 : decode cX5_init 58 = .ok (.putfield 30, 3) := by decide +kernel
theorem dX5_init_61 : decode cX5_init 61 = .ok (.aload_n 0, 1) := by decide +kernel
theorem dX5_init_62 : decode cX5_init 62 = .ok (.bipush 12, 2) := by decide +kernel
theorem dX5_init_64 : decode cX5_init 64 = .ok (.newarray .int, 2) := by decide +kernel
theorem dX5_init_66 : decode cX5_init 66 = .ok (.putfield 33, 3) := by decide +kernel
theorem dX5_init_69 : decode cX5_init 69 = .ok (.aload_n 0, 1) := by decide +kernel
theorem dX5_init_70 : decode cX5_init 70 = .ok (.bipush 12, 2) := by decide +kernel
theorem dX5_init_72 : decode cX5_init 72 = .ok (.newarray .int, 2) := by decide +kernel
theorem dX5_init_74 : decode cX5_init 74 = .ok (.putfield 36, 3) := by decide +kernel
theorem dX5_init_77 : decode cX5_init 77 = .ok (.aload_n 0, 1) := by decide +kernel
theorem dX5_init_78 : decode cX5_init 78 = .ok (.bipush 100, 2) := by decide +kernel
theorem dX5_init_80 : decode cX5_init 80 = .ok (.newarray .int, 2) := by decide +kernel
theorem dX5_init_82 : decode cX5_init 82 = .ok (.putfield 39, 3) := by decide +kernel
theorem dX5_init_85 : decode cX5_init 85 = .ok (.return_, 1) := by decide +kernel
set_option maxRecDepth 100000 in
theorem s_RowInit (l : Launch) (dd : Nat) (t : Nat) (hd : 1 ≤ dd) : zSp l mX5_init dd 10 568 [.ref t] [(t, .inr (4, [.null, .int 0, .null, .null, .null, .null, .null, .null, .null, .null, .null, .null, .int 0, .int 0, .int 0, .int 0, .int 0, .int 0, .int 0]))] (fun r K' => r = none ∧ ∃ ar, K' = kRow t ar .null (fun _ => 0, fun _ _ => 0)) := by
  refine zSp.of (by decide) (Nat.le_of_ble_eq_true rfl) (fun h0 => ?_)
  show zS _ 10 568 0 [(0, .ref t)] [] [(t, .inr (4, [.null, .int 0, .null, .null, .null, .null, .null, .null, .null, .null, .null, .null, .int 0, .int 0, .int 0, .int 0, .int 0, .int 0, .int 0]))]
  refine zs_aload_n dX5_init_0 rfl rfl ?_
  refine zs_objInit dX5_init_1 zo_RX5 (show 1 ≤ dd by omega) (Nat.le_of_ble_eq_true rfl) ?_
  refine zs_aload_n dX5_init_4 rfl rfl ?_
  refine zs_bipush (v := 12) dX5_init_5 (by decide) ?_
  refine zs_newa_int (N := 12) dX5_init_7 (by decide) (by decide) (by decide) (by first | omega | (simp only [List.length_cons, List.length_nil]; omega)) (by first | omega | (simp only [List.length_cons, List.length_nil]; omega)) (fun q_1 => ?_)
  show zS _ _ _ _ _ _ [(t, .inr (4, [.null, .int 0, .null, .null, .null, .null, .null, .null, .null, .null, .null, .null, .int 0, .int 0, .int 0, .int 0, .int 0, .int 0, .int 0])), (q_1, .inl (0, 12, .inl (fun _ => 0)))]
  refine zs_putF 0 dX5_init_9 zf_RX5_9 rfl (Nat.le_of_ble_eq_true rfl) (zPv_a rfl) rfl (fun C T N hh => by cases hh; rfl) ?_
  show zS _ _ _ _ _ _ [(t, .inr (4, [.null, .int 0, .ref q_1, .null, .null, .null, .null, .null, .null, .null, .null, .null, .int 0, .int 0, .int 0, .int 0, .int 0, .int 0, .int 0])), (q_1, .inl (0, 12, .inl (fun _ => 0)))]
  refine zs_aload_n dX5_init_12 rfl rfl ?_
  refine zs_bipush (v := 12) dX5_init_13 (by decide) ?_
  refine zs_newa_int (N := 12) dX5_init_15 (by decide) (by decide) (by decide) (by first | omega | (simp only [List.length_cons, List.length_nil]; omega)) (by first | omega | (simp only [List.length_cons, List.length_nil]; omega)) (fun q_2 => ?_)
  show zS _ _ _ _ _ _ [(t, .inr (4, [.null, .int 0, .ref q_1, .null, .null, .null, .null, .null, .null, .null, .null, .null, .int 0, .int 0, .int 0, .int 0, .int 0, .int 0, .int 0])), (q_1, .inl (0, 12, .inl (fun _ => 0))), (q_2, .inl (0, 12, .inl (fun _ => 0)))]
  refine zs_putF 0 dX5_init_17 zf_RX5_15 rfl (Nat.le_of_ble_eq_true rfl) (zPv_a rfl) rfl (fun C T N hh => by cases hh; rfl) ?_
  show zS _ _ _ _ _ _ [(t, .inr (4, [.null, .int 0, .ref q_1, .ref q_2, .null, .null, .null, .null, .null, .null, .null, .null, .int 0, .int 0, .int 0, .int 0, .int 0, .int 0, .int 0])), (q_1, .inl (0, 12, .inl (fun _ => 0))), (q_2, .inl (0, 12, .inl (fun _ => 0)))]
  refine zs_aload_n dX5_init_20 rfl rfl ?_
  refine zs_bipush (v := 12) dX5_init_21 (by decide) ?_
  refine zs_newa_int (N := 12) dX5_init_23 (by decide) (by decide) (by decide) (by first | omega | (simp only [List.length_cons, List.length_nil]; omega)) (by first | omega | (simp only [List.length_cons, List.length_nil]; omega)) (fun q_3 => ?_)
  show zS _ _ _ _ _ _ [(t, .inr (4, [.null, .int 0, .ref q_1, .ref q_2, .null, .null, .null, .null, .null, .null, .null, .null, .int 0, .int 0, .int 0, .int 0, .int 0, .int 0, .int 0])), (q_1, .inl (0, 12, .inl (fun _ => 0))), (q_2, .inl (0, 12, .inl (fun _ => 0))), (q_3, .inl (0, 12, .inl (fun _ => 0)))]
  refine zs_putF 0 dX5_init_25 zf_RX5_18 rfl (Nat.le_of_ble_eq_true rfl) (zPv_a rfl) rfl (fun C T N hh => by cases hh; rfl) ?_
  show zS _ _ _ _ _ _ [(t, .inr (4, [.null, .int 0, .ref q_1, .ref q_2, .ref q_3, .null, .null, .null, .null, .null, .null, .null, .int 0, .int 0, .int 0, .int 0, .int 0, .int 0, .int 0])), (q_1, .inl (0, 12, .inl (fun _ => 0))), (q_2, .inl (0, 12, .inl (fun _ => 0))), (q_3, .inl (0, 12, .inl (fun _ => 0)))]
  refine zs_aload_n dX5_init_28 rfl rfl ?_
  refine zs_bipush (v := 12) dX5_init_29 (by decide) ?_
  refine zs_newa_int (N := 12) dX5_init_31 (by decide) (by decide) (by decide) (by first | omega | (simp only [List.length_cons, List.length_nil]; omega)) (by first | omega | (simp only [List.length_cons, List.length_nil]; omega)) (fun q_4 => ?_)
  show zS _ _ _ _ _ _ [(t, .inr (4, [.null, .int 0, .ref q_1, .ref q_2, .ref q_3, .null, .null, .null, .null, .null, .null, .null, .int 0, .int 0, .int 0, .int 0, .int 0, .int 0, .int 0])), (q_1, .inl (0, 12, .inl (fun _ => 0))), (q_2, .inl (0, 12, .inl (fun _ => 0))), (q_3, .inl (0, 12, .inl (fun _ => 0))), (q_4, .inl (0, 12, .inl (fun _ => 0)))]
  refine zs_putF 0 dX5_init_33 zf_RX5_21 rfl (Nat.le_of_ble_eq_true rfl) (zPv_a rfl) rfl (fun C T N hh => by cases hh; rfl) ?_
  show zS _ _ _ _ _ _ [(t, .inr (4, [.null, .int 0, .ref q_1, .ref q_2, .ref q_3, .ref q_4, .null, .null, .null, .null, .null, .null, .int 0, .int 0, .int 0, .int 0, .int 0, .int 0, .int 0])), (q_1, .inl (0, 12, .inl (fun _ => 0))), (q_2, .inl (0, 12, .inl (fun _ => 0))), (q_3, .inl (0, 12, .inl (fun _ => 0))), (q_4, .inl (0, 12, .inl (fun _ => 0)))]
  refine zs_aload_n dX5_init_36 rfl rfl ?_
  refine zs_bipush (v := 12) dX5_init_37 (by decide) ?_
  refine zs_newa_int (N := 12) dX5_init_39 (by decide) (by decide) (by decide) (by first | omega | (simp only [List.length_cons, List.length_nil]; omega)) (by first | omega | (simp only [List.length_cons, List.length_nil]; omega)) (fun q_5 => ?_)
  show zS _ _ _ _ _ _ [(t, .inr (4, [.null, .int 0, .ref q_1, .ref q_2, .ref q_3, .ref q_4, .null, .null, .null, .null, .null, .null, .int 0, .int 0, .int 0, .int 0, .int 0, .int 0, .int 0])), (q_1, .inl (0, 12, .inl (fun _ => 0))), (q_2, .inl (0, 12, .inl (fun _ => 0))), (q_3, .inl (0, 12, .inl (fun _ => 0))), (q_4, .inl (0, 12, .inl (fun _ => 0))), (q_5, .inl (0, 12, .inl (fun _ => 0)))]
  refine zs_putF 0 dX5_init_41 zf_RX5_24 rfl (Nat.le_of_ble_eq_true rfl) (zPv_a rfl) rfl (fun C T N hh => by cases hh; rfl) ?_
  show zS _ _ _ _ _ _ [(t, .inr (4, [.null, .int 0, .ref q_1, .ref q_2, .ref q_3, .ref q_4, .ref q_5, .null, .null, .null, .null, .null, .int 0, .int 0, .int 0, .int 0, .int 0, .int 0, .int 0])), (q_1, .inl (0, 12, .inl (fun _ => 0))), (q_2, .inl (0, 12, .inl (fun _ => 0))), (q_3, .inl (0, 12, .inl (fun _ => 0))), (q_4, .inl (0, 12, .inl (fun _ => 0))), (q_5, .inl (0, 12, .inl (fun _ => 0)))]
  refine zs_aload_n dX5_init_44 rfl rfl ?_
  refine zs_sipush (v := 360) dX5_init_45 (by decide) ?_
  refine zs_newa_int (N := 360) dX5_init_48 (by decide) (by decide) (by decide) (by first | omega | (simp only [List.length_cons, List.length_nil]; omega)) (by first | omega | (simp only [List.length_cons, List.length_nil]; omega)) (fun q_6 => ?_)
  show zS _ _ _ _ _ _ [(t, .inr (4, [.null, .int 0, .ref q_1, .ref q_2, .ref q_3, .ref q_4, .ref q_5, .null, .null, .null, .null, .null, .int 0, .int 0, .int 0, .int 0, .int 0, .int 0, .int 0])), (q_1, .inl (0, 12, .inl (fun _ => 0))), (q_2, .inl (0, 12, .inl (fun _ => 0))), (q_3, .inl (0, 12, .inl (fun _ => 0))), (q_4, .inl (0, 12, .inl (fun _ => 0))), (q_5, .inl (0, 12, .inl (fun _ => 0))), (q_6, .inl (0, 360, .inl (fun _ => 0)))]
  refine zs_putF 0 dX5_init_50 zf_RX5_27 rfl (Nat.le_of_ble_eq_true rfl) (zPv_a rfl) rfl (fun C T N hh => by cases hh; rfl) ?_
  show zS _ _ _ _ _ _ [(t, .inr (4, [.null, .int 0, .ref q_1, .ref q_2, .ref q_3, .ref q_4, .ref q_5, .ref q_6, .null, .null, .null, .null, .int 0, .int 0, .int 0, .int 0, .int 0, .int 0, .int 0])), (q_1, .inl (0, 12, .inl (fun _ => 0))), (q_2, .inl (0, 12, .inl (fun _ => 0))), (q_3, .inl (0, 12, .inl (fun _ => 0))), (q_4, .inl (0, 12, .inl (fun _ => 0))), (q_5, .inl (0, 12, .inl (fun _ => 0))), (q_6, .inl (0, 360, .inl (fun _ => 0)))]
  refine zs_aload_n dX5_init_53 rfl rfl ?_
  refine zs_bipush (v := 12) dX5_init_54 (by decide) ?_
  refine zs_newa_int (N := 12) dX5_init_56 (by decide) (by decide) (by decide) (by first | omega | (simp only [List.length_cons, List.length_nil]; omega)) (by first | omega | (simp only [List.length_cons, List.length_nil]; omega)) (fun q_7 => ?_)
  show zS _ _ _ _ _ _ [(t, .inr (4, [.null, .int 0, .ref q_1, .ref q_2, .ref q_3, .ref q_4, .ref q_5, .ref q_6, .null, .null, .null, .null, .int 0, .int 0, .int 0, .int 0, .int 0, .int 0, .int 0])), (q_1, .inl (0, 12, .inl (fun _ => 0))), (q_2, .inl (0, 12, .inl (fun _ => 0))), (q_3, .inl (0, 12, .inl (fun _ => 0))), (q_4, .inl (0, 12, .inl (fun _ => 0))), (q_5, .inl (0, 12, .inl (fun _ => 0))), (q_6, .inl (0, 360, .inl (fun _ => 0))), (q_7, .inl (0, 12, .inl (fun _ => 0)))]
  refine zs_putF 0 dX5_init_58 zf_RX5_30 rfl (Nat.le_of_ble_eq_true rfl) (zPv_a rfl) rfl (fun C T N hh => by cases hh; rfl) ?_
  show zS _ _ _ _ _ _ [(t, .inr (4, [.null, .int 0, .ref q_1, .ref q_2, .ref q_3, .ref q_4, .ref q_5, .ref q_6, .ref q_7, .null, .null, .null, .int 0, .int 0, .int 0, .int 0, .int 0, .int 0, .int 0])), (q_1, .inl (0, 12, .inl (fun _ => 0))), (q_2, .inl (0, 12, .inl (fun _ => 0))), (q_3, .inl (0, 12, .inl (fun _ => 0))), (q_4, .inl (0, 12, .inl (fun _ => 0))), (q_5, .inl (0, 12, .inl (fun _ => 0))), (q_6, .inl (0, 360, .inl (fun _ => 0))), (q_7, .inl (0, 12, .inl (fun _ => 0)))]
  refine zs_aload_n dX5_init_61 rfl rfl ?_
  refine zs_bipush (v := 12) dX5_init_62 (by decide) ?_
  refine zs_newa_int (N := 12) dX5_init_64 (by decide) (by decide) (by decide) (by first | omega | (simp only [List.length_cons, List.length_nil]; omega)) (by first | omega | (simp only [List.length_cons, List.length_nil]; omega)) (fun q_8 => ?_)
  show zS _ _ _ _ _ _ [(t, .inr (4, [.null, .int 0, .ref q_1, .ref q_2, .ref q_3, .ref q_4, .ref q_5, .ref q_6, .ref q_7, .null, .null, .null, .int 0, .int 0, .int 0, .int 0, .int 0, .int 0, .int 0])), (q_1, .inl (0, 12, .inl (fun _ => 0))), (q_2, .inl (0, 12, .inl (fun _ => 0))), (q_3, .inl (0, 12, .inl (fun _ => 0))), (q_4, .inl (0, 12, .inl (fun _ => 0))), (q_5, .inl (0, 12, .inl (fun _ => 0))), (q_6, .inl (0, 360, .inl (fun _ => 0))), (q_7, .inl (0, 12, .inl (fun _ => 0))), (q_8, .inl (0, 12, .inl (fun _ => 0)))]
  refine zs_putF 0 dX5_init_66 zf_RX5_33 rfl (Nat.le_of_ble_eq_true rfl) (zPv_a rfl) rfl (fun C T N hh => by cases hh; rfl) ?_
  show zS _ _ _ _ _ _ [(t, .inr (4, [.null, .int 0, .ref q_1, .ref q_2, .ref q_3, .ref q_4, .ref q_5, .ref q_6, .ref q_7, .ref q_8, .null, .null, .int 0, .int 0, .int 0, .int 0, .int 0, .int 0, .int 0])), (q_1, .inl (0, 12, .inl (fun _ => 0))), (q_2, .inl (0, 12, .inl (fun _ => 0))), (q_3, .inl (0, 12, .inl (fun _ => 0))), (q_4, .inl (0, 12, .inl (fun _ => 0))), (q_5, .inl (0, 12, .inl (fun _ => 0))), (q_6, .inl (0, 360, .inl (fun _ => 0))), (q_7, .inl (0, 12, .inl (fun _ => 0))), (q_8, .inl (0, 12, .inl (fun _ => 0)))]
  refine zs_aload_n dX5_init_69 rfl rfl ?_
  refine zs_bipush (v := 12) dX5_init_70 (by decide) ?_
  refine zs_newa_int (N := 12) dX5_init_72 (by decide) (by decide) (by decide) (by first | omega | (simp only [List.length_cons, List.length_nil]; omega)) (by first | omega | (simp only [List.length_cons, List.length_nil]; omega)) (fun q_9 => ?_)
  show zS _ _ _ _ _ _ [(t, .inr (4, [.null, .int 0, .ref q_1, .ref q_2, .ref q_3, .ref q_4, .ref q_5, .ref q_6, .ref q_7, .ref q_8, .null, .null, .int 0, .int 0, .int 0, .int 0, .int 0, .int 0, .int 0])), (q_1, .inl (0, 12, .inl (fun _ => 0))), (q_2, .inl (0, 12, .inl (fun _ => 0))), (q_3, .inl (0, 12, .inl (fun _ => 0))), (q_4, .inl (0, 12, .inl (fun _ => 0))), (q_5, .inl (0, 12, .inl (fun _ => 0))), (q_6, .inl (0, 360, .inl (fun _ => 0))), (q_7, .inl (0, 12, .inl (fun _ => 0))), (q_8, .inl (0, 12, .inl (fun _ => 0))), (q_9, .inl (0, 12, .inl (fun _ => 0)))]
  refine zs_putF 0 dX5_init_74 zf_RX5_36 rfl (Nat.le_of_ble_eq_true rfl) (zPv_a rfl) rfl (fun C T N hh => by cases hh; rfl) ?_
  show zS _ _ _ _ _ _ [(t, .inr (4, [.null, .int 0, .ref q_1, .ref q_2, .ref q_3, .ref q_4, .ref q_5, .ref q_6, .ref q_7, .ref q_8, .ref q_9, .null, .int 0, .int 0, .int 0, .int 0, .int 0, .int 0, .int 0])), (q_1, .inl (0, 12, .inl (fun _ => 0))), (q_2, .inl (0, 12, .inl (fun _ => 0))), (q_3, .inl (0, 12, .inl (fun _ => 0))), (q_4, .inl (0, 12, .inl (fun _ => 0))), (q_5, .inl (0, 12, .inl (fun _ => 0))), (q_6, .inl (0, 360, .inl (fun _ => 0))), (q_7, .inl (0, 12, .inl (fun _ => 0))), (q_8, .inl (0, 12, .inl (fun _ => 0))), (q_9, .inl (0, 12, .inl (fun _ => 0)))]
  refine zs_aload_n dX5_init_77 rfl rfl ?_
  refine zs_bipush (v := 100) dX5_init_78 (by decide) ?_
  refine zs_newa_int (N := 100) dX5_init_80 (by decide) (by decide) (by decide) (by first | omega | (simp only [List.length_cons, List.length_nil]; omega)) (by first | omega | (simp only [List.length_cons, List.length_nil]; omega)) (fun q_10 => ?_)
  show zS _ _ _ _ _ _ [(t, .inr (4, [.null, .int 0, .ref q_1, .ref q_2, .ref q_3, .ref q_4, .ref q_5, .ref q_6, .ref q_7, .ref q_8, .ref q_9, .null, .int 0, .int 0, .int 0, .int 0, .int 0, .int 0, .int 0])), (q_1, .inl (0, 12, .inl (fun _ => 0))), (q_2, .inl (0, 12, .inl (fun _ => 0))), (q_3, .inl (0, 12, .inl (fun _ => 0))), (q_4, .inl (0, 12, .inl (fun _ => 0))), (q_5, .inl (0, 12, .inl (fun _ => 0))), (q_6, .inl (0, 360, .inl (fun _ => 0))), (q_7, .inl (0, 12, .inl (fun _ => 0))), (q_8, .inl (0, 12, .inl (fun _ => 0))), (q_9, .inl (0, 12, .inl (fun _ => 0))), (q_10, .inl (0, 100, .inl (fun _ => 0)))]
  refine zs_putF 0 dX5_init_82 zf_RX5_39 rfl (Nat.le_of_ble_eq_true rfl) (zPv_a rfl) rfl (fun C T N hh => by cases hh; rfl) ?_
  show zS _ _ _ _ _ _ [(t, .inr (4, [.null, .int 0, .ref q_1, .ref q_2, .ref q_3, .ref q_4, .ref q_5, .ref q_6, .ref q_7, .ref q_8, .ref q_9, .ref q_10, .int 0, .int 0, .int 0, .int 0, .int 0, .int 0, .int 0])), (q_1, .inl (0, 12, .inl (fun _ => 0))), (q_2, .inl (0, 12, .inl (fun _ => 0))), (q_3, .inl (0, 12, .inl (fun _ => 0))), (q_4, .inl (0, 12, .inl (fun _ => 0))), (q_5, .inl (0, 12, .inl (fun _ => 0))), (q_6, .inl (0, 360, .inl (fun _ => 0))), (q_7, .inl (0, 12, .inl (fun _ => 0))), (q_8, .inl (0, 12, .inl (fun _ => 0))), (q_9, .inl (0, 12, .inl (fun _ => 0))), (q_10, .inl (0, 100, .inl (fun _ => 0)))]
  exact zs_vret dX5_init_85 rfl ⟨rfl, (fun j => [0, q_1, q_2, q_3, q_4, q_5, q_6, q_7, q_8, q_9, q_10].getD j 0), rfl⟩
def nCl (new old : Nat → Nat) (i : Nat) : Nat → Nat := fun j => if j < i then new j else old j
theorem nCl_0 (new old : Nat → Nat) : nCl new old 0 = old := by
  funext j
  simp only [nCl, Nat.not_lt_zero, if_false]
theorem nCl_u {new old : Nat → Nat} {k x : Nat} (h : new k = x) : un (nCl new old k) k x = nCl new old (k + 1) := by
  funext j
  simp only [un, nCl]
  by_cases hj : j = k
  · subst hj
    rw [if_pos rfl, if_pos (by omega), h]
  · rw [if_neg hj]
    by_cases h2 : j < k
    · rw [if_pos h2, if_pos (by omega)]
    · rw [if_neg h2, if_neg (by omega)]
theorem nCl_s {new old : Nat → Nat} {i j : Nat} (h : j < i) : nCl new old i j = new j := if_pos h
def nUp (x y : Nat) : Nat := (x + y - 1) / y
def nTime (Y hdd : Nat → Nat) (m p n : Nat) : Nat := if p = n - 1 then Y 12 + hdd m else if p = 0 then Y 8 + (hdd m + nUp (Y 5) (n - 1) / 4) else hdd m + nUp (Y 5) (n - 1) / 4
theorem pUp_n {x y : Nat} (hx : x ≤ 1000000) (hy : y ≤ 1000000) (h0 : 1 ≤ y) : pUp (nI x) (nI y) = nI (nUp x y) := by
  unfold pUp nUp
  rw [if_pos (by rw [show (0 : Int32) = nI 0 from rfl, nI_lt' (by omega) (by omega)]; omega), nI_add, show (1 : Int32) = nI 1 from rfl, nI_sub (by omega), nI_div (by omega) (by omega) (by omega)]
theorem pTime_n {Y hdd : Nat → Nat} {wi : Int32} {m p n : Nat} (hn : 2 ≤ n ∧ n ≤ 12) (hp : p < n) (h5 : Y 5 ≤ 1000000) (h8 : Y 8 ≤ 100) (h12 : Y 12 ≤ 100) (hh : hdd m ≤ 100) : pTime (ysN Y wi) (nF hdd) m (nI p) (nI n) = nI (nTime Y hdd m p n) := by
  unfold pTime nTime
  have e1 : nI n - 1 = nI (n - 1) := nI_sub (b := 1) (by omega)
  have hu : nUp (Y 5) (n - 1) ≤ 2000000 := by
    unfold nUp
    exact Nat.le_trans (Nat.div_le_self _ _) (by omega)
  have e2 : pUp (ysN Y wi 5) (nI (n - 1)) = nI (nUp (Y 5) (n - 1)) := pUp_n h5 (by omega) (by omega)
  rw [e1, e2, show (0 : Int32) = nI 0 from rfl, show (4 : Int32) = nI 4 from rfl, nI_div (by omega) (by omega) (by omega)]
  simp only [nI_eq' (show p < 2147483648 by omega) (show n - 1 < 2147483648 by omega), nI_eq' (show p < 2147483648 by omega) (show 0 < 2147483648 by omega)]
  split
  · exact nI_add (Y 12) (hdd m)
  · split
    · show nI (Y 8) + (nI (hdd m) + _) = _
      rw [nI_add, nI_add]
    · exact nI_add (hdd m) _
theorem nTime_le {Y hdd : Nat → Nat} {m p n : Nat} (h5 : Y 5 ≤ 99) (h8 : Y 8 ≤ 30) (h12 : Y 12 ≤ 9) (hn : 2 ≤ n) (hh : hdd m ≤ 9) : nTime Y hdd m p n ≤ 100 := by
  have hu : nUp (Y 5) (n - 1) ≤ 99 := by
    unfold nUp
    apply Nat.div_le_of_le_mul
    have : (n - 1) * 99 = 99 + (n - 2) * 99 := by
      rw [show n - 1 = (n - 2) + 1 by omega, Nat.add_mul]
      omega
    omega
  unfold nTime
  split
  · omega
  · split <;> omega
def cBeg (Y hdd ff : Nat → Nat) (first n w : Nat) (s : zRs) : zRs :=
  (un (un (un (un (un (un (un (un s.1 1 n) 12 0) 13 (Y 6)) 14 w) 15 0) 16 0) 17 0) 18 0,
   uu (uu (uu (uu (uu (uu (uu (uu (uu s.2 1 (nCl (fun i => ff (first + i)) (s.2 1) n)) 2 (nCl (fun i => nTime Y hdd (ff (first + i)) i n) (s.2 2) n)) 3 (nCl (fun _ => 0) (s.2 3) n)) 4 (nCl (fun _ => 0) (s.2 4) n)) 5 (nCl (fun _ => 0) (s.2 5) n)) 7 (nCl (fun _ => 0) (s.2 7) n)) 8 (nCl (fun _ => 0) (s.2 8) n)) 9 (nCl (fun _ => 0) (s.2 9) n)) 10 (nCl (fun _ => 0) (s.2 10) 100))
theorem dX5_begin_0 : decode cX5_begin 0 = .ok (.aload_n 0, 1) := by decide +kernel
theorem dX5_begin_1 : decode cX5_begin 1 = .ok (.aload_n 1, 1) := by decide +kernel
theorem dX5_begin_2 : decode cX5_begin 2 = .ok (.putfield 42, 3) := by decide +kernel
theorem dX5_begin_5 : decode cX5_begin 5 = .ok (.aload_n 0, 1) := by decide +kernel
theorem dX5_begin_6 : decode cX5_begin 6 = .ok (.iload 4, 2) := by decide +kernel
theorem dX5_begin_8 : decode cX5_begin 8 = .ok (.bipush 12, 2) := by decide +kernel
theorem dX5_begin_10 : decode cX5_begin 10 = .ok (.invokestatic 46, 3) := by decide +kernel
theorem dX5_begin_13 : decode cX5_begin 13 = .ok (.putfield 52, 3) := by decide +kernel
theorem dX5_begin_16 : decode cX5_begin 16 = .ok (.iconst 0, 1) := by decide +kernel
theorem dX5_begin_17 : decode cX5_begin 17 = .ok (.istore 6, 2) := by decide +kernel
theorem dX5_begin_19 : decode cX5_begin 19 = .ok (.iload 6, 2) := by decide +kernel
theorem dX5_begin_21 : decode cX5_begin 21 = .ok (.aload_n 0, 1) := by decide +kernel
theorem dX5_begin_22 : decode cX5_begin 22 = .ok (.getfield 52, 3) := by decide +kernel
theorem dX5_begin_25 : decode cX5_begin 25 = .ok (.if_icmp .ge 94, 3) := by decide +kernel
theorem dX5_begin_28 : decode cX5_begin 28 = .ok (.aload_n 0, 1) := by decide +kernel
theorem dX5_begin_29 : decode cX5_begin 29 = .ok (.getfield 9, 3) := by decide +kernel
theorem dX5_begin_32 : decode cX5_begin 32 = .ok (.iload 6, 2) := by decide +kernel
theorem dX5_begin_34 : decode cX5_begin 34 = .ok (.aload_n 2, 1) := by decide +kernel
theorem dX5_begin_35 : decode cX5_begin 35 = .ok (.iload_n 3, 1) := by decide +kernel
theorem dX5_begin_36 : decode cX5_begin 36 = .ok (.iload 6, 2) := by decide +kernel
theorem dX5_begin_38 : decode cX5_begin 38 = .ok (.iadd, 1) := by decide +kernel
theorem dX5_begin_39 : decode cX5_begin 39 = .ok (.iaload, 1) := by decide +kernel
theorem dX5_begin_40 : decode cX5_begin 40 = .ok (.iastore, 1) := by decide +kernel
theorem dX5_begin_41 : decode cX5_begin 41 = .ok (.aload_n 0, 1) := by decide +kernel
theorem dX5_begin_42 : decode cX5_begin 42 = .ok (.getfield 15, 3) := by decide +kernel
theorem dX5_begin_45 : decode cX5_begin 45 = .ok (.iload 6, 2) := by decide +kernel
theorem dX5_begin_47 : decode cX5_begin 47 = .ok (.aload_n 1, 1) := by decide +kernel
theorem dX5_begin_48 : decode cX5_begin 48 = .ok (.aload_n 0, 1) := by decide +kernel
theorem dX5_begin_49 : decode cX5_begin 49 = .ok (.getfield 9, 3) := by decide +kernel
theorem dX5_begin_52 : decode cX5_begin 52 = .ok (.iload 6, 2) := by decide +kernel
theorem dX5_begin_54 : decode cX5_begin 54 = .ok (.iaload, 1) := by decide +kernel
theorem dX5_begin_55 : decode cX5_begin 55 = .ok (.iload 6, 2) := by decide +kernel
theorem dX5_begin_57 : decode cX5_begin 57 = .ok (.aload_n 0, 1) := by decide +kernel
theorem dX5_begin_58 : decode cX5_begin 58 = .ok (.getfield 52, 3) := by decide +kernel
theorem dX5_begin_61 : decode cX5_begin 61 = .ok (.invokevirtual 56, 3) := by decide +kernel
theorem dX5_begin_64 : decode cX5_begin 64 = .ok (.iastore, 1) := by decide +kernel
theorem dX5_begin_65 : decode cX5_begin 65 = .ok (.aload_n 0, 1) := by decide +kernel
theorem dX5_begin_66 : decode cX5_begin 66 = .ok (.getfield 18, 3) := by decide +kernel
theorem dX5_begin_69 : decode cX5_begin 69 = .ok (.iload 6, 2) := by decide +kernel
theorem dX5_begin_71 : decode cX5_begin 71 = .ok (.iconst 0, 1) := by decide +kernel
theorem dX5_begin_72 : decode cX5_begin 72 = .ok (.iastore, 1) := by decide +kernel
theorem dX5_begin_73 : decode cX5_begin 73 = .ok (.aload_n 0, 1) := by decide +kernel
theorem dX5_begin_74 : decode cX5_begin 74 = .ok (.getfield 21, 3) := by decide +kernel
theorem dX5_begin_77 : decode cX5_begin 77 = .ok (.iload 6, 2) := by decide +kernel
theorem dX5_begin_79 : decode cX5_begin 79 = .ok (.iconst 0, 1) := by decide +kernel
theorem dX5_begin_80 : decode cX5_begin 80 = .ok (.iastore, 1) := by decide +kernel
theorem dX5_begin_81 : decode cX5_begin 81 = .ok (.aload_n 0, 1) := by decide +kernel
theorem dX5_begin_82 : decode cX5_begin 82 = .ok (.getfield 24, 3) := by decide +kernel
theorem dX5_begin_85 : decode cX5_begin 85 = .ok (.iload 6, 2) := by decide +kernel
theorem dX5_begin_87 : decode cX5_begin 87 = .ok (.iconst 0, 1) := by decide +kernel
theorem dX5_begin_88 : decode cX5_begin 88 = .ok (.iastore, 1) := by decide +kernel
theorem dX5_begin_89 : decode cX5_begin 89 = .ok (.aload_n 0, 1) := by decide +kernel
theorem dX5_begin_90 : decode cX5_begin 90 = .ok (.getfield 30, 3) := by decide +kernel
theorem dX5_begin_93 : decode cX5_begin 93 = .ok (.iload 6, 2) := by decide +kernel
theorem dX5_begin_95 : decode cX5_begin 95 = .ok (.iconst 0, 1) := by decide +kernel
theorem dX5_begin_96 : decode cX5_begin 96 = .ok (.iastore, 1) := by decide +kernel
theorem dX5_begin_97 : decode cX5_begin 97 = .ok (.aload_n 0, 1) := by decide +kernel
theorem dX5_begin_98 : decode cX5_begin 98 = .ok (.getfield 33, 3) := by decide +kernel
theorem dX5_begin_101 : decode cX5_begin 101 = .ok (.iload 6, 2) := by decide +kernel
theorem dX5_begin_103 : decode cX5_begin 103 = .ok (.iconst 0, 1) := by decide +kernel
theorem dX5_begin_104 : decode cX5_begin 104 = .ok (.iastore, 1) := by decide +kernel
theorem dX5_begin_105 : decode cX5_begin 105 = .ok (.aload_n 0, 1) := by decide +kernel
theorem dX5_begin_106 : decode cX5_begin 106 = .ok (.getfield 36, 3) := by decide +kernel
theorem dX5_begin_109 : decode cX5_begin 109 = .ok (.iload 6, 2) := by decide +kernel
theorem dX5_begin_111 : decode cX5_begin 111 = .ok (.iconst 0, 1) := by decide +kernel
theorem dX5_begin_112 : decode cX5_begin 112 = .ok (.iastore, 1) := by decide +kernel
theorem dX5_begin_113 : decode cX5_begin 113 = .ok (.iinc 6 1, 3) := by decide +kernel
theorem dX5_begin_116 : decode cX5_begin 116 = .ok (.goto (-97), 3) := by decide +kernel
theorem dX5_begin_119 : decode cX5_begin 119 = .ok (.iconst 0, 1) := by decide +kernel
theorem dX5_begin_120 : decode cX5_begin 120 = .ok (.istore 6, 2) := by decide +kernel
theorem dX5_begin_122 : decode cX5_begin 122 = .ok (.iload 6, 2) := by decide +kernel
theorem dX5_begin_124 : decode cX5_begin 124 = .ok (.bipush 100, 2) := by decide +kernel
theorem dX5_begin_126 : decode cX5_begin 126 = .ok (.if_icmp .ge 17, 3) := by decide +kernel
theorem dX5_begin_129 : decode cX5_begin 129 = .ok (.aload_n 0, 1) := by decide +kernel
theorem dX5_begin_130 : decode cX5_begin 130 = .ok (.getfield 39, 3) := by decide +kernel
theorem dX5_begin_133 : decode cX5_begin 133 = .ok (.iload 6, 2) := by decide +kernel
theorem dX5_begin_135 : decode cX5_begin 135 = .ok (.iconst 0, 1) := by decide +kernel
theorem dX5_begin_136 : decode cX5_begin 136 = .ok (.iastore, 1) := by decide +kernel
theorem dX5_begin_137 : decode cX5_begin 137 = .ok (.iinc 6 1, 3) := by decide +kernel
theorem dX5_begin_140 : decode cX5_begin 140 = .ok (.goto (-18), 3) := by decide +kernel
theorem dX5_begin_143 : decode cX5_begin 143 = .ok (.aload_n 0, 1) := by decide +kernel
theorem dX5_begin_144 : decode cX5_begin 144 = .ok (.iconst 0, 1) := by decide +kernel
theorem dX5_begin_145 : decode cX5_begin 145 = .ok (.putfield 62, 3) := by decide +kernel
theorem dX5_begin_148 : decode cX5_begin 148 = .ok (.aload_n 0, 1) := by decide +kernel
theorem dX5_begin_149 : decode cX5_begin 149 = .ok (.aload_n 1, 1) := by decide +kernel
theorem dX5_begin_150 : decode cX5_begin 150 = .ok (.getfield 65, 3) := by decide +kernel
theorem dX5_begin_153 : decode cX5_begin 153 = .ok (.putfield 68, 3) := by decide +kernel
theorem dX5_begin_156 : decode cX5_begin 156 = .ok (.aload_n 0, 1) := by decide +kernel
theorem dX5_begin_157 : decode cX5_begin 157 = .ok (.iload 5, 2) := by decide +kernel
theorem dX5_begin_159 : decode cX5_begin 159 = .ok (.putfield 71, 3) := by decide +kernel
theorem dX5_begin_162 : decode cX5_begin 162 = .ok (.aload_n 0, 1) := by decide +kernel
theorem dX5_begin_163 : decode cX5_begin 163 = .ok (.iconst 0, 1) := by decide +kernel
theorem dX5_begin_164 : decode cX5_begin 164 = .ok (.putfield 74, 3) := by decide +kernel
theorem dX5_begin_167 : decode cX5_begin 167 = .ok (.aload_n 0, 1) := by decide +kernel
theorem dX5_begin_168 : decode cX5_begin 168 = .ok (.iconst 0, 1) := by decide +kernel
theorem dX5_begin_169 : decode cX5_begin 169 = .ok (.putfield 77, 3) := by decide +kernel
theorem dX5_begin_172 : decode cX5_begin 172 = .ok (.aload_n 0, 1) := by decide +kernel
theorem dX5_begin_173 : decode cX5_begin 173 = .ok (.iconst 0, 1) := by decide +kernel
theorem dX5_begin_174 : decode cX5_begin 174 = .ok (.putfield 80, 3) := by decide +kernel
theorem dX5_begin_177 : decode cX5_begin 177 = .ok (.aload_n 0, 1) := by decide +kernel
theorem dX5_begin_178 : decode cX5_begin 178 = .ok (.iconst 0, 1) := by decide +kernel
theorem dX5_begin_179 : decode cX5_begin 179 = .ok (.putfield 83, 3) := by decide +kernel
theorem dX5_begin_182 : decode cX5_begin 182 = .ok (.return_, 1) := by decide +kernel
set_option maxRecDepth 100000 in
theorem lp_beg1 {l : Launch} {dd : Nat} {Po : zPo} {K0 : zK} {h0 : List va_E} {Xo : zK → Prop} {Gc : zG → Prop} (ro y f fn : Nat) (ar ay : Nat → Nat) (yv : Value) (s : zRs) (Y : Nat → Nat) (wi : Int32) (nm : Nat → Int32) (hdd pcc pww ff : Nat → Nat) (yf yb : Nat → Int32) (first n wl : Nat) (hd : 2 ≤ dd) (hn : 2 ≤ n ∧ n ≤ 12) (hfn : first + n ≤ fn) (hfn2 : fn ≤ 1000) (hff : ∀ i, i < n → ff (first + i) < Y 0) (hY0 : Y 0 ≤ 12) (hY5 : Y 5 ≤ 99) (hY8 : Y 8 ≤ 30) (hY12 : Y 12 ≤ 9) (hhd : ∀ j, j < 12 → hdd j ≤ 9)
    (hk : zS (l, mX5_begin, dd, Po, K0, h0, Xo, Gc) 0 0 119 [(0, .ref ro), (1, .ref y), (2, .ref f), (3, .int (nI first)), (4, .int (nI n)), (5, .int (nI wl)), (6, .int (nI n))] [] [(ro, .inr (4, fRow ar (nF (un s.1 1 n)) (.ref y))), (ar 1, .inl (0, 12, .inl (nF (nCl (fun i => ff (first + i)) (s.2 1) n)))), (ar 2, .inl (0, 12, .inl (nF (nCl (fun i => nTime Y hdd (ff (first + i)) i n) (s.2 2) n)))), (ar 3, .inl (0, 12, .inl (nF (nCl (fun _ => 0) (s.2 3) n)))), (ar 4, .inl (0, 12, .inl (nF (nCl (fun _ => 0) (s.2 4) n)))), (ar 5, .inl (0, 12, .inl (nF (nCl (fun _ => 0) (s.2 5) n)))), (ar 6, .inl (0, 360, .inl (nF (s.2 6)))), (ar 7, .inl (0, 12, .inl (nF (nCl (fun _ => 0) (s.2 7) n)))), (ar 8, .inl (0, 12, .inl (nF (nCl (fun _ => 0) (s.2 8) n)))), (ar 9, .inl (0, 12, .inl (nF (nCl (fun _ => 0) (s.2 9) n)))), (ar 10, .inl (0, 100, .inl (nF (s.2 10)))), (y, .inr (9, fYard ay (ysN Y wi))), (ay 1, .inl (0, 12, .inl nm)), (ay 2, .inl (0, 12, .inl (nF hdd))), (ay 3, .inl (0, 12, .inl (nF pcc))), (ay 4, .inl (0, 12, .inl (nF pww))), (ay 5, .inl (0, 64, .inl yf)), (ay 6, .inl (1, 64, .inl yb)), (f, .inl (0, fn, .inl (nF ff)))]) :
    ∀ (m i : Nat) , i + m = n → zS (l, mX5_begin, dd, Po, K0, h0, Xo, Gc) 0 0 19 [(0, .ref ro), (1, .ref y), (2, .ref f), (3, .int (nI first)), (4, .int (nI n)), (5, .int (nI wl)), (6, .int (nI i))] [] [(ro, .inr (4, fRow ar (nF (un s.1 1 n)) (.ref y))), (ar 1, .inl (0, 12, .inl (nF (nCl (fun i => ff (first + i)) (s.2 1) i)))), (ar 2, .inl (0, 12, .inl (nF (nCl (fun i => nTime Y hdd (ff (first + i)) i n) (s.2 2) i)))), (ar 3, .inl (0, 12, .inl (nF (nCl (fun _ => 0) (s.2 3) i)))), (ar 4, .inl (0, 12, .inl (nF (nCl (fun _ => 0) (s.2 4) i)))), (ar 5, .inl (0, 12, .inl (nF (nCl (fun _ => 0) (s.2 5) i)))), (ar 6, .inl (0, 360, .inl (nF (s.2 6)))), (ar 7, .inl (0, 12, .inl (nF (nCl (fun _ => 0) (s.2 7) i)))), (ar 8, .inl (0, 12, .inl (nF (nCl (fun _ => 0) (s.2 8) i)))), (ar 9, .inl (0, 12, .inl (nF (nCl (fun _ => 0) (s.2 9) i)))), (ar 10, .inl (0, 100, .inl (nF (s.2 10)))), (y, .inr (9, fYard ay (ysN Y wi))), (ay 1, .inl (0, 12, .inl nm)), (ay 2, .inl (0, 12, .inl (nF hdd))), (ay 3, .inl (0, 12, .inl (nF pcc))), (ay 4, .inl (0, 12, .inl (nF pww))), (ay 5, .inl (0, 64, .inl yf)), (ay 6, .inl (1, 64, .inl yb)), (f, .inl (0, fn, .inl (nF ff)))] := by
  intro m
  induction m with
  | zero =>
    intro i hi
    have hin : n = i := by omega
    subst hin
    refine zs_iload dX5_begin_19 rfl ?_
    refine zs_aload_n dX5_begin_21 rfl rfl ?_
    refine zs_get 0 dX5_begin_22 zf_RX5_52 rfl (v := .int (nI n)) rfl ?_
    refine zs_icmp_ge (tgt := 119) dX5_begin_25 (by decide) (fun c_1 => ?_) (fun c_1 => (c_1 (Int32.le_refl _) : False).elim)
    exact hk
  | succ m ih =>
    intro i hi
    have hin : i < n := by omega
    have bf := hff i hin
    have bh := hhd (ff (first + i)) (by omega)
    refine zs_iload dX5_begin_19 rfl ?_
    refine zs_aload_n dX5_begin_21 rfl rfl ?_
    refine zs_get 0 dX5_begin_22 zf_RX5_52 rfl (v := .int (nI n)) rfl ?_
    refine zs_icmp_ge (tgt := 119) dX5_begin_25 (by decide) (fun c_1 => (nI_ge hin (by omega) c_1 : False).elim) (fun c_1 => ?_)
    refine zs_aload_n dX5_begin_28 rfl rfl ?_
    refine zs_get 0 dX5_begin_29 zf_RX5_9 rfl (v := .ref (ar 1)) rfl ?_
    refine zs_iload dX5_begin_32 rfl ?_
    refine zs_aload_n dX5_begin_34 rfl rfl ?_
    refine zs_iload_n dX5_begin_35 rfl ?_
    refine zs_iload dX5_begin_36 rfl ?_
    refine zs_iadd dX5_begin_38 ?_
    refine zs_as (y := nI (first + i)) (nI_add _ _) ?_
    refine zs_iald 18 dX5_begin_39 rfl (vp_in_nI (by omega) (by omega)) ?_
    refine zs_as (y := nI (ff (first + i))) (by rw [nI_c (n := first + i) (by omega)]; rfl) ?_
    refine zs_iast 1 dX5_begin_40 rfl (vp_in_nI (by omega) (by omega)) ?_
    rw [nI_c (n := i) (by omega), nF_u]
    rw [nCl_u (new := (fun i => ff (first + i))) (old := s.2 1) (k := i) rfl]
    show zS _ _ _ _ _ _ [(ro, .inr (4, fRow ar (nF (un s.1 1 n)) (.ref y))), (ar 1, .inl (0, 12, .inl (nF (nCl (fun i => ff (first + i)) (s.2 1) (i + 1))))), (ar 2, .inl (0, 12, .inl (nF (nCl (fun i => nTime Y hdd (ff (first + i)) i n) (s.2 2) i)))), (ar 3, .inl (0, 12, .inl (nF (nCl (fun _ => 0) (s.2 3) i)))), (ar 4, .inl (0, 12, .inl (nF (nCl (fun _ => 0) (s.2 4) i)))), (ar 5, .inl (0, 12, .inl (nF (nCl (fun _ => 0) (s.2 5) i)))), (ar 6, .inl (0, 360, .inl (nF (s.2 6)))), (ar 7, .inl (0, 12, .inl (nF (nCl (fun _ => 0) (s.2 7) i)))), (ar 8, .inl (0, 12, .inl (nF (nCl (fun _ => 0) (s.2 8) i)))), (ar 9, .inl (0, 12, .inl (nF (nCl (fun _ => 0) (s.2 9) i)))), (ar 10, .inl (0, 100, .inl (nF (s.2 10)))), (y, .inr (9, fYard ay (ysN Y wi))), (ay 1, .inl (0, 12, .inl nm)), (ay 2, .inl (0, 12, .inl (nF hdd))), (ay 3, .inl (0, 12, .inl (nF pcc))), (ay 4, .inl (0, 12, .inl (nF pww))), (ay 5, .inl (0, 64, .inl yf)), (ay 6, .inl (1, 64, .inl yb)), (f, .inl (0, fn, .inl (nF ff)))]
    refine zs_aload_n dX5_begin_41 rfl rfl ?_
    refine zs_get 0 dX5_begin_42 zf_RX5_15 rfl (v := .ref (ar 2)) rfl ?_
    refine zs_iload dX5_begin_45 rfl ?_
    refine zs_aload_n dX5_begin_47 rfl rfl ?_
    refine zs_aload_n dX5_begin_48 rfl rfl ?_
    refine zs_get 0 dX5_begin_49 zf_RX5_9 rfl (v := .ref (ar 1)) rfl ?_
    refine zs_iload dX5_begin_52 rfl ?_
    refine zs_iald 1 dX5_begin_54 rfl (vp_in_nI (by omega) (by omega)) ?_
    refine zs_as (y := nI (ff (first + i))) (by rw [nI_c (n := i) (by omega)]; exact congrArg nI (nCl_s (by omega))) ?_
    refine zs_iload dX5_begin_55 rfl ?_
    refine zs_aload_n dX5_begin_57 rfl rfl ?_
    refine zs_get 0 dX5_begin_58 zf_RX5_52 rfl (v := .int (nI n)) rfl ?_
    refine zs_callV (M := mX11_timeAt) (As := [.int (nI (ff (first + i))), .int (nI i), .int (nI n)]) (st := [.int (nI i), .ref (ar 2)]) (Kc := [(y, .inr (9, fYard ay (ysN Y wi))), (ay 1, .inl (0, 12, .inl nm)), (ay 2, .inl (0, 12, .inl (nF hdd))), (ay 3, .inl (0, 12, .inl (nF pcc))), (ay 4, .inl (0, 12, .inl (nF pww))), (ay 5, .inl (0, 64, .inl yf)), (ay 6, .inl (1, 64, .inl yb))]) (Kr := [(ro, .inr (4, fRow ar (nF (un s.1 1 n)) (.ref y))), (ar 1, .inl (0, 12, .inl (nF (nCl (fun i => ff (first + i)) (s.2 1) (i + 1))))), (ar 2, .inl (0, 12, .inl (nF (nCl (fun i => nTime Y hdd (ff (first + i)) i n) (s.2 2) i)))), (ar 3, .inl (0, 12, .inl (nF (nCl (fun _ => 0) (s.2 3) i)))), (ar 4, .inl (0, 12, .inl (nF (nCl (fun _ => 0) (s.2 4) i)))), (ar 5, .inl (0, 12, .inl (nF (nCl (fun _ => 0) (s.2 5) i)))), (ar 6, .inl (0, 360, .inl (nF (s.2 6)))), (ar 7, .inl (0, 12, .inl (nF (nCl (fun _ => 0) (s.2 7) i)))), (ar 8, .inl (0, 12, .inl (nF (nCl (fun _ => 0) (s.2 8) i)))), (ar 9, .inl (0, 12, .inl (nF (nCl (fun _ => 0) (s.2 9) i)))), (ar 10, .inl (0, 100, .inl (nF (s.2 10)))), (f, .inl (0, fn, .inl (nF ff)))]) [11, 12, 13, 14, 15, 16, 17] [0, 1, 2, 3, 4, 5, 6, 7, 8, 9, 10, 18] 0 dX5_begin_61 zl_RX5_56 kX11_timeAt rfl rfl rfl rfl rfl (by decide) rfl rfl (show dd - 1 + 1 ≤ dd by omega) (Nat.zero_le _) (Nat.zero_le _) (Nat.le_of_ble_eq_true rfl) (s_timeAt l (dd - 1) y ay (ysN Y wi) nm (nF hdd) (nF pcc) (nF pww) yf yb (ff (first + i)) (Y 0) (nI i) (nI n) (by omega) (hff i hin) hY0 rfl) (fun r K1 hr => ?_)
    obtain ⟨rfl, rfl⟩ := hr
    refine zs_K (K' := [(ro, .inr (4, fRow ar (nF (un s.1 1 n)) (.ref y))), (ar 1, .inl (0, 12, .inl (nF (nCl (fun i => ff (first + i)) (s.2 1) (i + 1))))), (ar 2, .inl (0, 12, .inl (nF (nCl (fun i => nTime Y hdd (ff (first + i)) i n) (s.2 2) i)))), (ar 3, .inl (0, 12, .inl (nF (nCl (fun _ => 0) (s.2 3) i)))), (ar 4, .inl (0, 12, .inl (nF (nCl (fun _ => 0) (s.2 4) i)))), (ar 5, .inl (0, 12, .inl (nF (nCl (fun _ => 0) (s.2 5) i)))), (ar 6, .inl (0, 360, .inl (nF (s.2 6)))), (ar 7, .inl (0, 12, .inl (nF (nCl (fun _ => 0) (s.2 7) i)))), (ar 8, .inl (0, 12, .inl (nF (nCl (fun _ => 0) (s.2 8) i)))), (ar 9, .inl (0, 12, .inl (nF (nCl (fun _ => 0) (s.2 9) i)))), (ar 10, .inl (0, 100, .inl (nF (s.2 10)))), (y, .inr (9, fYard ay (ysN Y wi))), (ay 1, .inl (0, 12, .inl nm)), (ay 2, .inl (0, 12, .inl (nF hdd))), (ay 3, .inl (0, 12, .inl (nF pcc))), (ay 4, .inl (0, 12, .inl (nF pww))), (ay 5, .inl (0, 64, .inl yf)), (ay 6, .inl (1, 64, .inl yb)), (f, .inl (0, fn, .inl (nF ff)))]) [0, 1, 2, 3, 4, 5, 6, 7, 8, 9, 10, 12, 13, 14, 15, 16, 17, 18, 11] rfl (by decide) ?_
    refine zs_as (y := nI (nTime Y hdd (ff (first + i)) i n)) (pTime_n hn hin (by omega) (by omega) (by omega) (Nat.le_trans bh (by decide))) ?_
    refine zs_iast 2 dX5_begin_64 rfl (vp_in_nI (by omega) (by omega)) ?_
    rw [nI_c (n := i) (by omega), nF_u]
    rw [nCl_u (new := (fun i => nTime Y hdd (ff (first + i)) i n)) (old := s.2 2) (k := i) rfl]
    show zS _ _ _ _ _ _ [(ro, .inr (4, fRow ar (nF (un s.1 1 n)) (.ref y))), (ar 1, .inl (0, 12, .inl (nF (nCl (fun i => ff (first + i)) (s.2 1) (i + 1))))), (ar 2, .inl (0, 12, .inl (nF (nCl (fun i => nTime Y hdd (ff (first + i)) i n) (s.2 2) (i + 1))))), (ar 3, .inl (0, 12, .inl (nF (nCl (fun _ => 0) (s.2 3) i)))), (ar 4, .inl (0, 12, .inl (nF (nCl (fun _ => 0) (s.2 4) i)))), (ar 5, .inl (0, 12, .inl (nF (nCl (fun _ => 0) (s.2 5) i)))), (ar 6, .inl (0, 360, .inl (nF (s.2 6)))), (ar 7, .inl (0, 12, .inl (nF (nCl (fun _ => 0) (s.2 7) i)))), (ar 8, .inl (0, 12, .inl (nF (nCl (fun _ => 0) (s.2 8) i)))), (ar 9, .inl (0, 12, .inl (nF (nCl (fun _ => 0) (s.2 9) i)))), (ar 10, .inl (0, 100, .inl (nF (s.2 10)))), (y, .inr (9, fYard ay (ysN Y wi))), (ay 1, .inl (0, 12, .inl nm)), (ay 2, .inl (0, 12, .inl (nF hdd))), (ay 3, .inl (0, 12, .inl (nF pcc))), (ay 4, .inl (0, 12, .inl (nF pww))), (ay 5, .inl (0, 64, .inl yf)), (ay 6, .inl (1, 64, .inl yb)), (f, .inl (0, fn, .inl (nF ff)))]
    refine zs_aload_n dX5_begin_65 rfl rfl ?_
    refine zs_get 0 dX5_begin_66 zf_RX5_18 rfl (v := .ref (ar 3)) rfl ?_
    refine zs_iload dX5_begin_69 rfl ?_
    refine zs_iconst (v := nI 0) dX5_begin_71 (by decide) ?_
    refine zs_iast 3 dX5_begin_72 rfl (vp_in_nI (by omega) (by omega)) ?_
    rw [nI_c (n := i) (by omega), nF_u]
    rw [nCl_u (new := (fun _ => 0)) (old := s.2 3) (k := i) rfl]
    show zS _ _ _ _ _ _ [(ro, .inr (4, fRow ar (nF (un s.1 1 n)) (.ref y))), (ar 1, .inl (0, 12, .inl (nF (nCl (fun i => ff (first + i)) (s.2 1) (i + 1))))), (ar 2, .inl (0, 12, .inl (nF (nCl (fun i => nTime Y hdd (ff (first + i)) i n) (s.2 2) (i + 1))))), (ar 3, .inl (0, 12, .inl (nF (nCl (fun _ => 0) (s.2 3) (i + 1))))), (ar 4, .inl (0, 12, .inl (nF (nCl (fun _ => 0) (s.2 4) i)))), (ar 5, .inl (0, 12, .inl (nF (nCl (fun _ => 0) (s.2 5) i)))), (ar 6, .inl (0, 360, .inl (nF (s.2 6)))), (ar 7, .inl (0, 12, .inl (nF (nCl (fun _ => 0) (s.2 7) i)))), (ar 8, .inl (0, 12, .inl (nF (nCl (fun _ => 0) (s.2 8) i)))), (ar 9, .inl (0, 12, .inl (nF (nCl (fun _ => 0) (s.2 9) i)))), (ar 10, .inl (0, 100, .inl (nF (s.2 10)))), (y, .inr (9, fYard ay (ysN Y wi))), (ay 1, .inl (0, 12, .inl nm)), (ay 2, .inl (0, 12, .inl (nF hdd))), (ay 3, .inl (0, 12, .inl (nF pcc))), (ay 4, .inl (0, 12, .inl (nF pww))), (ay 5, .inl (0, 64, .inl yf)), (ay 6, .inl (1, 64, .inl yb)), (f, .inl (0, fn, .inl (nF ff)))]
    refine zs_aload_n dX5_begin_73 rfl rfl ?_
    refine zs_get 0 dX5_begin_74 zf_RX5_21 rfl (v := .ref (ar 4)) rfl ?_
    refine zs_iload dX5_begin_77 rfl ?_
    refine zs_iconst (v := nI 0) dX5_begin_79 (by decide) ?_
    refine zs_iast 4 dX5_begin_80 rfl (vp_in_nI (by omega) (by omega)) ?_
    rw [nI_c (n := i) (by omega), nF_u]
    rw [nCl_u (new := (fun _ => 0)) (old := s.2 4) (k := i) rfl]
    show zS _ _ _ _ _ _ [(ro, .inr (4, fRow ar (nF (un s.1 1 n)) (.ref y))), (ar 1, .inl (0, 12, .inl (nF (nCl (fun i => ff (first + i)) (s.2 1) (i + 1))))), (ar 2, .inl (0, 12, .inl (nF (nCl (fun i => nTime Y hdd (ff (first + i)) i n) (s.2 2) (i + 1))))), (ar 3, .inl (0, 12, .inl (nF (nCl (fun _ => 0) (s.2 3) (i + 1))))), (ar 4, .inl (0, 12, .inl (nF (nCl (fun _ => 0) (s.2 4) (i + 1))))), (ar 5, .inl (0, 12, .inl (nF (nCl (fun _ => 0) (s.2 5) i)))), (ar 6, .inl (0, 360, .inl (nF (s.2 6)))), (ar 7, .inl (0, 12, .inl (nF (nCl (fun _ => 0) (s.2 7) i)))), (ar 8, .inl (0, 12, .inl (nF (nCl (fun _ => 0) (s.2 8) i)))), (ar 9, .inl (0, 12, .inl (nF (nCl (fun _ => 0) (s.2 9) i)))), (ar 10, .inl (0, 100, .inl (nF (s.2 10)))), (y, .inr (9, fYard ay (ysN Y wi))), (ay 1, .inl (0, 12, .inl nm)), (ay 2, .inl (0, 12, .inl (nF hdd))), (ay 3, .inl (0, 12, .inl (nF pcc))), (ay 4, .inl (0, 12, .inl (nF pww))), (ay 5, .inl (0, 64, .inl yf)), (ay 6, .inl (1, 64, .inl yb)), (f, .inl (0, fn, .inl (nF ff)))]
    refine zs_aload_n dX5_begin_81 rfl rfl ?_
    refine zs_get 0 dX5_begin_82 zf_RX5_24 rfl (v := .ref (ar 5)) rfl ?_
    refine zs_iload dX5_begin_85 rfl ?_
    refine zs_iconst (v := nI 0) dX5_begin_87 (by decide) ?_
    refine zs_iast 5 dX5_begin_88 rfl (vp_in_nI (by omega) (by omega)) ?_
    rw [nI_c (n := i) (by omega), nF_u]
    rw [nCl_u (new := (fun _ => 0)) (old := s.2 5) (k := i) rfl]
    show zS _ _ _ _ _ _ [(ro, .inr (4, fRow ar (nF (un s.1 1 n)) (.ref y))), (ar 1, .inl (0, 12, .inl (nF (nCl (fun i => ff (first + i)) (s.2 1) (i + 1))))), (ar 2, .inl (0, 12, .inl (nF (nCl (fun i => nTime Y hdd (ff (first + i)) i n) (s.2 2) (i + 1))))), (ar 3, .inl (0, 12, .inl (nF (nCl (fun _ => 0) (s.2 3) (i + 1))))), (ar 4, .inl (0, 12, .inl (nF (nCl (fun _ => 0) (s.2 4) (i + 1))))), (ar 5, .inl (0, 12, .inl (nF (nCl (fun _ => 0) (s.2 5) (i + 1))))), (ar 6, .inl (0, 360, .inl (nF (s.2 6)))), (ar 7, .inl (0, 12, .inl (nF (nCl (fun _ => 0) (s.2 7) i)))), (ar 8, .inl (0, 12, .inl (nF (nCl (fun _ => 0) (s.2 8) i)))), (ar 9, .inl (0, 12, .inl (nF (nCl (fun _ => 0) (s.2 9) i)))), (ar 10, .inl (0, 100, .inl (nF (s.2 10)))), (y, .inr (9, fYard ay (ysN Y wi))), (ay 1, .inl (0, 12, .inl nm)), (ay 2, .inl (0, 12, .inl (nF hdd))), (ay 3, .inl (0, 12, .inl (nF pcc))), (ay 4, .inl (0, 12, .inl (nF pww))), (ay 5, .inl (0, 64, .inl yf)), (ay 6, .inl (1, 64, .inl yb)), (f, .inl (0, fn, .inl (nF ff)))]
    refine zs_aload_n dX5_begin_89 rfl rfl ?_
    refine zs_get 0 dX5_begin_90 zf_RX5_30 rfl (v := .ref (ar 7)) rfl ?_
    refine zs_iload dX5_begin_93 rfl ?_
    refine zs_iconst (v := nI 0) dX5_begin_95 (by decide) ?_
    refine zs_iast 7 dX5_begin_96 rfl (vp_in_nI (by omega) (by omega)) ?_
    rw [nI_c (n := i) (by omega), nF_u]
    rw [nCl_u (new := (fun _ => 0)) (old := s.2 7) (k := i) rfl]
    show zS _ _ _ _ _ _ [(ro, .inr (4, fRow ar (nF (un s.1 1 n)) (.ref y))), (ar 1, .inl (0, 12, .inl (nF (nCl (fun i => ff (first + i)) (s.2 1) (i + 1))))), (ar 2, .inl (0, 12, .inl (nF (nCl (fun i => nTime Y hdd (ff (first + i)) i n) (s.2 2) (i + 1))))), (ar 3, .inl (0, 12, .inl (nF (nCl (fun _ => 0) (s.2 3) (i + 1))))), (ar 4, .inl (0, 12, .inl (nF (nCl (fun _ => 0) (s.2 4) (i + 1))))), (ar 5, .inl (0, 12, .inl (nF (nCl (fun _ => 0) (s.2 5) (i + 1))))), (ar 6, .inl (0, 360, .inl (nF (s.2 6)))), (ar 7, .inl (0, 12, .inl (nF (nCl (fun _ => 0) (s.2 7) (i + 1))))), (ar 8, .inl (0, 12, .inl (nF (nCl (fun _ => 0) (s.2 8) i)))), (ar 9, .inl (0, 12, .inl (nF (nCl (fun _ => 0) (s.2 9) i)))), (ar 10, .inl (0, 100, .inl (nF (s.2 10)))), (y, .inr (9, fYard ay (ysN Y wi))), (ay 1, .inl (0, 12, .inl nm)), (ay 2, .inl (0, 12, .inl (nF hdd))), (ay 3, .inl (0, 12, .inl (nF pcc))), (ay 4, .inl (0, 12, .inl (nF pww))), (ay 5, .inl (0, 64, .inl yf)), (ay 6, .inl (1, 64, .inl yb)), (f, .inl (0, fn, .inl (nF ff)))]
    refine zs_aload_n dX5_begin_97 rfl rfl ?_
    refine zs_get 0 dX5_begin_98 zf_RX5_33 rfl (v := .ref (ar 8)) rfl ?_
    refine zs_iload dX5_begin_101 rfl ?_
    refine zs_iconst (v := nI 0) dX5_begin_103 (by decide) ?_
    refine zs_iast 8 dX5_begin_104 rfl (vp_in_nI (by omega) (by omega)) ?_
    rw [nI_c (n := i) (by omega), nF_u]
    rw [nCl_u (new := (fun _ => 0)) (old := s.2 8) (k := i) rfl]
    show zS _ _ _ _ _ _ [(ro, .inr (4, fRow ar (nF (un s.1 1 n)) (.ref y))), (ar 1, .inl (0, 12, .inl (nF (nCl (fun i => ff (first + i)) (s.2 1) (i + 1))))), (ar 2, .inl (0, 12, .inl (nF (nCl (fun i => nTime Y hdd (ff (first + i)) i n) (s.2 2) (i + 1))))), (ar 3, .inl (0, 12, .inl (nF (nCl (fun _ => 0) (s.2 3) (i + 1))))), (ar 4, .inl (0, 12, .inl (nF (nCl (fun _ => 0) (s.2 4) (i + 1))))), (ar 5, .inl (0, 12, .inl (nF (nCl (fun _ => 0) (s.2 5) (i + 1))))), (ar 6, .inl (0, 360, .inl (nF (s.2 6)))), (ar 7, .inl (0, 12, .inl (nF (nCl (fun _ => 0) (s.2 7) (i + 1))))), (ar 8, .inl (0, 12, .inl (nF (nCl (fun _ => 0) (s.2 8) (i + 1))))), (ar 9, .inl (0, 12, .inl (nF (nCl (fun _ => 0) (s.2 9) i)))), (ar 10, .inl (0, 100, .inl (nF (s.2 10)))), (y, .inr (9, fYard ay (ysN Y wi))), (ay 1, .inl (0, 12, .inl nm)), (ay 2, .inl (0, 12, .inl (nF hdd))), (ay 3, .inl (0, 12, .inl (nF pcc))), (ay 4, .inl (0, 12, .inl (nF pww))), (ay 5, .inl (0, 64, .inl yf)), (ay 6, .inl (1, 64, .inl yb)), (f, .inl (0, fn, .inl (nF ff)))]
    refine zs_aload_n dX5_begin_105 rfl rfl ?_
    refine zs_get 0 dX5_begin_106 zf_RX5_36 rfl (v := .ref (ar 9)) rfl ?_
    refine zs_iload dX5_begin_109 rfl ?_
    refine zs_iconst (v := nI 0) dX5_begin_111 (by decide) ?_
    refine zs_iast 9 dX5_begin_112 rfl (vp_in_nI (by omega) (by omega)) ?_
    rw [nI_c (n := i) (by omega), nF_u]
    rw [nCl_u (new := (fun _ => 0)) (old := s.2 9) (k := i) rfl]
    show zS _ _ _ _ _ _ [(ro, .inr (4, fRow ar (nF (un s.1 1 n)) (.ref y))), (ar 1, .inl (0, 12, .inl (nF (nCl (fun i => ff (first + i)) (s.2 1) (i + 1))))), (ar 2, .inl (0, 12, .inl (nF (nCl (fun i => nTime Y hdd (ff (first + i)) i n) (s.2 2) (i + 1))))), (ar 3, .inl (0, 12, .inl (nF (nCl (fun _ => 0) (s.2 3) (i + 1))))), (ar 4, .inl (0, 12, .inl (nF (nCl (fun _ => 0) (s.2 4) (i + 1))))), (ar 5, .inl (0, 12, .inl (nF (nCl (fun _ => 0) (s.2 5) (i + 1))))), (ar 6, .inl (0, 360, .inl (nF (s.2 6)))), (ar 7, .inl (0, 12, .inl (nF (nCl (fun _ => 0) (s.2 7) (i + 1))))), (ar 8, .inl (0, 12, .inl (nF (nCl (fun _ => 0) (s.2 8) (i + 1))))), (ar 9, .inl (0, 12, .inl (nF (nCl (fun _ => 0) (s.2 9) (i + 1))))), (ar 10, .inl (0, 100, .inl (nF (s.2 10)))), (y, .inr (9, fYard ay (ysN Y wi))), (ay 1, .inl (0, 12, .inl nm)), (ay 2, .inl (0, 12, .inl (nF hdd))), (ay 3, .inl (0, 12, .inl (nF pcc))), (ay 4, .inl (0, 12, .inl (nF pww))), (ay 5, .inl (0, 64, .inl yf)), (ay 6, .inl (1, 64, .inl yb)), (f, .inl (0, fn, .inl (nF ff)))]
    refine zs_iinc (v := (nI (i + 1))) (lv' := [(6, .int (nI (i + 1))), (0, .ref ro), (1, .ref y), (2, .ref f), (3, .int (nI first)), (4, .int (nI n)), (5, .int (nI wl))]) dX5_begin_113 rfl (nI_add _ 1) (Nat.le_of_ble_eq_true rfl) rfl ?_
    refine zs_goto (tgt := 19) dX5_begin_116 (by decide) ?_
    refine zs_lv [1, 2, 3, 4, 5, 6, 0] rfl ?_
    exact ih (i + 1) (by omega)
set_option maxRecDepth 100000 in
theorem lp_beg2 {l : Launch} {dd : Nat} {Po : zPo} {K0 : zK} {h0 : List va_E} {Xo : zK → Prop} {Gc : zG → Prop} (ro y f fn : Nat) (ar ay : Nat → Nat) (yv : Value) (s : zRs) (Y : Nat → Nat) (wi : Int32) (nm : Nat → Int32) (hdd pcc pww ff : Nat → Nat) (yf yb : Nat → Int32) (first n wl : Nat) (hd : 2 ≤ dd) (hn : 2 ≤ n ∧ n ≤ 12) (hfn : first + n ≤ fn) (hfn2 : fn ≤ 1000) (hff : ∀ i, i < n → ff (first + i) < Y 0) (hY0 : Y 0 ≤ 12) (hY5 : Y 5 ≤ 99) (hY8 : Y 8 ≤ 30) (hY12 : Y 12 ≤ 9) (hhd : ∀ j, j < 12 → hdd j ≤ 9)
    (hk : zS (l, mX5_begin, dd, Po, K0, h0, Xo, Gc) 0 0 143 [(0, .ref ro), (1, .ref y), (2, .ref f), (3, .int (nI first)), (4, .int (nI n)), (5, .int (nI wl)), (6, .int (nI 100))] [] [(ro, .inr (4, fRow ar (nF (un s.1 1 n)) (.ref y))), (ar 1, .inl (0, 12, .inl (nF (nCl (fun i => ff (first + i)) (s.2 1) n)))), (ar 2, .inl (0, 12, .inl (nF (nCl (fun i => nTime Y hdd (ff (first + i)) i n) (s.2 2) n)))), (ar 3, .inl (0, 12, .inl (nF (nCl (fun _ => 0) (s.2 3) n)))), (ar 4, .inl (0, 12, .inl (nF (nCl (fun _ => 0) (s.2 4) n)))), (ar 5, .inl (0, 12, .inl (nF (nCl (fun _ => 0) (s.2 5) n)))), (ar 6, .inl (0, 360, .inl (nF (s.2 6)))), (ar 7, .inl (0, 12, .inl (nF (nCl (fun _ => 0) (s.2 7) n)))), (ar 8, .inl (0, 12, .inl (nF (nCl (fun _ => 0) (s.2 8) n)))), (ar 9, .inl (0, 12, .inl (nF (nCl (fun _ => 0) (s.2 9) n)))), (ar 10, .inl (0, 100, .inl (nF (nCl (fun _ => 0) (s.2 10) 100)))), (y, .inr (9, fYard ay (ysN Y wi))), (ay 1, .inl (0, 12, .inl nm)), (ay 2, .inl (0, 12, .inl (nF hdd))), (ay 3, .inl (0, 12, .inl (nF pcc))), (ay 4, .inl (0, 12, .inl (nF pww))), (ay 5, .inl (0, 64, .inl yf)), (ay 6, .inl (1, 64, .inl yb)), (f, .inl (0, fn, .inl (nF ff)))]) :
    ∀ (m i : Nat) , i + m = 100 → zS (l, mX5_begin, dd, Po, K0, h0, Xo, Gc) 0 0 122 [(0, .ref ro), (1, .ref y), (2, .ref f), (3, .int (nI first)), (4, .int (nI n)), (5, .int (nI wl)), (6, .int (nI i))] [] [(ro, .inr (4, fRow ar (nF (un s.1 1 n)) (.ref y))), (ar 1, .inl (0, 12, .inl (nF (nCl (fun i => ff (first + i)) (s.2 1) n)))), (ar 2, .inl (0, 12, .inl (nF (nCl (fun i => nTime Y hdd (ff (first + i)) i n) (s.2 2) n)))), (ar 3, .inl (0, 12, .inl (nF (nCl (fun _ => 0) (s.2 3) n)))), (ar 4, .inl (0, 12, .inl (nF (nCl (fun _ => 0) (s.2 4) n)))), (ar 5, .inl (0, 12, .inl (nF (nCl (fun _ => 0) (s.2 5) n)))), (ar 6, .inl (0, 360, .inl (nF (s.2 6)))), (ar 7, .inl (0, 12, .inl (nF (nCl (fun _ => 0) (s.2 7) n)))), (ar 8, .inl (0, 12, .inl (nF (nCl (fun _ => 0) (s.2 8) n)))), (ar 9, .inl (0, 12, .inl (nF (nCl (fun _ => 0) (s.2 9) n)))), (ar 10, .inl (0, 100, .inl (nF (nCl (fun _ => 0) (s.2 10) i)))), (y, .inr (9, fYard ay (ysN Y wi))), (ay 1, .inl (0, 12, .inl nm)), (ay 2, .inl (0, 12, .inl (nF hdd))), (ay 3, .inl (0, 12, .inl (nF pcc))), (ay 4, .inl (0, 12, .inl (nF pww))), (ay 5, .inl (0, 64, .inl yf)), (ay 6, .inl (1, 64, .inl yb)), (f, .inl (0, fn, .inl (nF ff)))] := by
  intro m
  induction m with
  | zero =>
    intro i hi
    have hin : i = 100 := by omega
    subst hin
    refine zs_iload dX5_begin_122 rfl ?_
    refine zs_bipush (v := nI 100) dX5_begin_124 (by decide) ?_
    refine zs_icmp_ge (tgt := 143) dX5_begin_126 (by decide) (fun c_1 => ?_) (fun c_1 => (c_1 (Int32.le_refl _) : False).elim)
    exact hk
  | succ m ih =>
    intro i hi
    refine zs_iload dX5_begin_122 rfl ?_
    refine zs_bipush (v := nI 100) dX5_begin_124 (by decide) ?_
    refine zs_icmp_ge (tgt := 143) dX5_begin_126 (by decide) (fun c_1 => (nI_ge (show i < 100 by omega) (by omega) c_1 : False).elim) (fun c_1 => ?_)
    refine zs_aload_n dX5_begin_129 rfl rfl ?_
    refine zs_get 0 dX5_begin_130 zf_RX5_39 rfl (v := .ref (ar 10)) rfl ?_
    refine zs_iload dX5_begin_133 rfl ?_
    refine zs_iconst (v := nI 0) dX5_begin_135 (by decide) ?_
    refine zs_iast 10 dX5_begin_136 rfl (vp_in_nI (by omega) (by omega)) ?_
    rw [nI_c (n := i) (by omega), nF_u]
    rw [nCl_u (new := fun _ => 0) (old := s.2 10) (k := i) rfl]
    show zS _ _ _ _ _ _ [(ro, .inr (4, fRow ar (nF (un s.1 1 n)) (.ref y))), (ar 1, .inl (0, 12, .inl (nF (nCl (fun i => ff (first + i)) (s.2 1) n)))), (ar 2, .inl (0, 12, .inl (nF (nCl (fun i => nTime Y hdd (ff (first + i)) i n) (s.2 2) n)))), (ar 3, .inl (0, 12, .inl (nF (nCl (fun _ => 0) (s.2 3) n)))), (ar 4, .inl (0, 12, .inl (nF (nCl (fun _ => 0) (s.2 4) n)))), (ar 5, .inl (0, 12, .inl (nF (nCl (fun _ => 0) (s.2 5) n)))), (ar 6, .inl (0, 360, .inl (nF (s.2 6)))), (ar 7, .inl (0, 12, .inl (nF (nCl (fun _ => 0) (s.2 7) n)))), (ar 8, .inl (0, 12, .inl (nF (nCl (fun _ => 0) (s.2 8) n)))), (ar 9, .inl (0, 12, .inl (nF (nCl (fun _ => 0) (s.2 9) n)))), (ar 10, .inl (0, 100, .inl (nF (nCl (fun _ => 0) (s.2 10) (i + 1))))), (y, .inr (9, fYard ay (ysN Y wi))), (ay 1, .inl (0, 12, .inl nm)), (ay 2, .inl (0, 12, .inl (nF hdd))), (ay 3, .inl (0, 12, .inl (nF pcc))), (ay 4, .inl (0, 12, .inl (nF pww))), (ay 5, .inl (0, 64, .inl yf)), (ay 6, .inl (1, 64, .inl yb)), (f, .inl (0, fn, .inl (nF ff)))]
    refine zs_iinc (v := (nI (i + 1))) (lv' := [(6, .int (nI (i + 1))), (0, .ref ro), (1, .ref y), (2, .ref f), (3, .int (nI first)), (4, .int (nI n)), (5, .int (nI wl))]) dX5_begin_137 rfl (nI_add _ 1) (Nat.le_of_ble_eq_true rfl) rfl ?_
    refine zs_goto (tgt := 122) dX5_begin_140 (by decide) ?_
    refine zs_lv [1, 2, 3, 4, 5, 6, 0] rfl ?_
    exact ih (i + 1) (by omega)
set_option maxRecDepth 100000 in
theorem s_rowBegin (l : Launch) (dd : Nat) (ro y f fn : Nat) (ar ay : Nat → Nat) (yv : Value) (s : zRs) (Y : Nat → Nat) (wi : Int32) (nm : Nat → Int32) (hdd pcc pww ff : Nat → Nat) (yf yb : Nat → Int32) (first n wl : Nat) (hd : 2 ≤ dd) (hn : 2 ≤ n ∧ n ≤ 12) (hfn : first + n ≤ fn) (hfn2 : fn ≤ 1000) (hff : ∀ i, i < n → ff (first + i) < Y 0) (hY0 : Y 0 ≤ 12) (hY5 : Y 5 ≤ 99) (hY8 : Y 8 ≤ 30) (hY12 : Y 12 ≤ 9) (hhd : ∀ j, j < 12 → hdd j ≤ 9) : zSp l mX5_begin dd 0 0 [.ref ro, .ref y, .ref f, .int (nI first), .int (nI n), .int (nI wl)] [(ro, .inr (4, fRow ar (nF s.1) yv)), (ar 1, .inl (0, 12, .inl (nF (s.2 1)))), (ar 2, .inl (0, 12, .inl (nF (s.2 2)))), (ar 3, .inl (0, 12, .inl (nF (s.2 3)))), (ar 4, .inl (0, 12, .inl (nF (s.2 4)))), (ar 5, .inl (0, 12, .inl (nF (s.2 5)))), (ar 6, .inl (0, 360, .inl (nF (s.2 6)))), (ar 7, .inl (0, 12, .inl (nF (s.2 7)))), (ar 8, .inl (0, 12, .inl (nF (s.2 8)))), (ar 9, .inl (0, 12, .inl (nF (s.2 9)))), (ar 10, .inl (0, 100, .inl (nF (s.2 10)))), (y, .inr (9, fYard ay (ysN Y wi))), (ay 1, .inl (0, 12, .inl nm)), (ay 2, .inl (0, 12, .inl (nF hdd))), (ay 3, .inl (0, 12, .inl (nF pcc))), (ay 4, .inl (0, 12, .inl (nF pww))), (ay 5, .inl (0, 64, .inl yf)), (ay 6, .inl (1, 64, .inl yb)), (f, .inl (0, fn, .inl (nF ff)))] (fun r K' => r = none ∧ K' = kRow ro ar (.ref y) (cBeg Y hdd ff first n wl s) ++ (kYrd y ay Y wi nm hdd pcc pww yf yb ++ [(f, .inl (0, fn, .inl (nF ff)))])) := by
  refine zSp.of (by decide) (Nat.le_of_ble_eq_true rfl) (fun h0 => ?_)
  show zS _ 0 0 0 [(0, .ref ro), (1, .ref y), (2, .ref f), (3, .int (nI first)), (4, .int (nI n)), (5, .int (nI wl))] [] [(ro, .inr (4, fRow ar (nF s.1) yv)), (ar 1, .inl (0, 12, .inl (nF (s.2 1)))), (ar 2, .inl (0, 12, .inl (nF (s.2 2)))), (ar 3, .inl (0, 12, .inl (nF (s.2 3)))), (ar 4, .inl (0, 12, .inl (nF (s.2 4)))), (ar 5, .inl (0, 12, .inl (nF (s.2 5)))), (ar 6, .inl (0, 360, .inl (nF (s.2 6)))), (ar 7, .inl (0, 12, .inl (nF (s.2 7)))), (ar 8, .inl (0, 12, .inl (nF (s.2 8)))), (ar 9, .inl (0, 12, .inl (nF (s.2 9)))), (ar 10, .inl (0, 100, .inl (nF (s.2 10)))), (y, .inr (9, fYard ay (ysN Y wi))), (ay 1, .inl (0, 12, .inl nm)), (ay 2, .inl (0, 12, .inl (nF hdd))), (ay 3, .inl (0, 12, .inl (nF pcc))), (ay 4, .inl (0, 12, .inl (nF pww))), (ay 5, .inl (0, 64, .inl yf)), (ay 6, .inl (1, 64, .inl yb)), (f, .inl (0, fn, .inl (nF ff)))]
  refine zs_aload_n dX5_begin_0 rfl rfl ?_
  refine zs_aload_n dX5_begin_1 rfl rfl ?_
  refine zs_put 0 dX5_begin_2 zf_RX5_42 rfl (Nat.le_of_ble_eq_true rfl) (zPv_o rfl) ?_
  show zS _ _ _ _ _ _ [(ro, .inr (4, fRow ar (nF s.1) (.ref y))), (ar 1, .inl (0, 12, .inl (nF (s.2 1)))), (ar 2, .inl (0, 12, .inl (nF (s.2 2)))), (ar 3, .inl (0, 12, .inl (nF (s.2 3)))), (ar 4, .inl (0, 12, .inl (nF (s.2 4)))), (ar 5, .inl (0, 12, .inl (nF (s.2 5)))), (ar 6, .inl (0, 360, .inl (nF (s.2 6)))), (ar 7, .inl (0, 12, .inl (nF (s.2 7)))), (ar 8, .inl (0, 12, .inl (nF (s.2 8)))), (ar 9, .inl (0, 12, .inl (nF (s.2 9)))), (ar 10, .inl (0, 100, .inl (nF (s.2 10)))), (y, .inr (9, fYard ay (ysN Y wi))), (ay 1, .inl (0, 12, .inl nm)), (ay 2, .inl (0, 12, .inl (nF hdd))), (ay 3, .inl (0, 12, .inl (nF pcc))), (ay 4, .inl (0, 12, .inl (nF pww))), (ay 5, .inl (0, 64, .inl yf)), (ay 6, .inl (1, 64, .inl yb)), (f, .inl (0, fn, .inl (nF ff)))]
  refine zs_aload_n dX5_begin_5 rfl rfl ?_
  refine zs_iload dX5_begin_6 rfl ?_
  refine zs_bipush (v := nI 12) dX5_begin_8 (by decide) ?_
  refine zs_mmin dX5_begin_10 zl_RX5_46 zmmin1 zmath2 zmmin3 (show 1 ≤ dd by omega) (Nat.le_of_ble_eq_true rfl) ?_
  refine zs_as (y := nI n) (by rw [nI_min (h := n) (w := 12) (by omega) (by omega), Nat.min_eq_left hn.2]) ?_
  refine zs_put 0 dX5_begin_13 zf_RX5_52 rfl (Nat.le_of_ble_eq_true rfl) (zPv_i _) ?_
  show zS _ _ _ _ _ _ [(ro, .inr (4, fRow ar (nF (un s.1 1 n)) (.ref y))), (ar 1, .inl (0, 12, .inl (nF (s.2 1)))), (ar 2, .inl (0, 12, .inl (nF (s.2 2)))), (ar 3, .inl (0, 12, .inl (nF (s.2 3)))), (ar 4, .inl (0, 12, .inl (nF (s.2 4)))), (ar 5, .inl (0, 12, .inl (nF (s.2 5)))), (ar 6, .inl (0, 360, .inl (nF (s.2 6)))), (ar 7, .inl (0, 12, .inl (nF (s.2 7)))), (ar 8, .inl (0, 12, .inl (nF (s.2 8)))), (ar 9, .inl (0, 12, .inl (nF (s.2 9)))), (ar 10, .inl (0, 100, .inl (nF (s.2 10)))), (y, .inr (9, fYard ay (ysN Y wi))), (ay 1, .inl (0, 12, .inl nm)), (ay 2, .inl (0, 12, .inl (nF hdd))), (ay 3, .inl (0, 12, .inl (nF pcc))), (ay 4, .inl (0, 12, .inl (nF pww))), (ay 5, .inl (0, 64, .inl yf)), (ay 6, .inl (1, 64, .inl yb)), (f, .inl (0, fn, .inl (nF ff)))]
  refine zs_iconst (v := nI 0) dX5_begin_16 (by decide) ?_
  refine zs_istore (lv' := [(6, .int (nI 0)), (0, .ref ro), (1, .ref y), (2, .ref f), (3, .int (nI first)), (4, .int (nI n)), (5, .int (nI wl))]) dX5_begin_17 (Nat.le_of_ble_eq_true rfl) rfl ?_
  refine zs_lv [1, 2, 3, 4, 5, 6, 0] rfl ?_
  refine zs_eq (K' := [(ro, .inr (4, fRow ar (nF (un s.1 1 n)) (.ref y))), (ar 1, .inl (0, 12, .inl (nF (nCl (fun i => ff (first + i)) (s.2 1) 0)))), (ar 2, .inl (0, 12, .inl (nF (nCl (fun i => nTime Y hdd (ff (first + i)) i n) (s.2 2) 0)))), (ar 3, .inl (0, 12, .inl (nF (nCl (fun _ => 0) (s.2 3) 0)))), (ar 4, .inl (0, 12, .inl (nF (nCl (fun _ => 0) (s.2 4) 0)))), (ar 5, .inl (0, 12, .inl (nF (nCl (fun _ => 0) (s.2 5) 0)))), (ar 6, .inl (0, 360, .inl (nF (s.2 6)))), (ar 7, .inl (0, 12, .inl (nF (nCl (fun _ => 0) (s.2 7) 0)))), (ar 8, .inl (0, 12, .inl (nF (nCl (fun _ => 0) (s.2 8) 0)))), (ar 9, .inl (0, 12, .inl (nF (nCl (fun _ => 0) (s.2 9) 0)))), (ar 10, .inl (0, 100, .inl (nF (s.2 10)))), (y, .inr (9, fYard ay (ysN Y wi))), (ay 1, .inl (0, 12, .inl nm)), (ay 2, .inl (0, 12, .inl (nF hdd))), (ay 3, .inl (0, 12, .inl (nF pcc))), (ay 4, .inl (0, 12, .inl (nF pww))), (ay 5, .inl (0, 64, .inl yf)), (ay 6, .inl (1, 64, .inl yb)), (f, .inl (0, fn, .inl (nF ff)))]) (by simp only [nCl_0]) ?_
  refine lp_beg1 ro y f fn ar ay yv s Y wi nm hdd pcc pww ff yf yb first n wl hd hn hfn hfn2 hff hY0 hY5 hY8 hY12 hhd ?_ n 0 (by omega)
  refine zs_iconst (v := nI 0) dX5_begin_119 (by decide) ?_
  refine zs_istore (lv' := [(6, .int (nI 0)), (0, .ref ro), (1, .ref y), (2, .ref f), (3, .int (nI first)), (4, .int (nI n)), (5, .int (nI wl))]) dX5_begin_120 (Nat.le_of_ble_eq_true rfl) rfl ?_
  refine zs_lv [1, 2, 3, 4, 5, 6, 0] rfl ?_
  refine zs_eq (K' := [(ro, .inr (4, fRow ar (nF (un s.1 1 n)) (.ref y))), (ar 1, .inl (0, 12, .inl (nF (nCl (fun i => ff (first + i)) (s.2 1) n)))), (ar 2, .inl (0, 12, .inl (nF (nCl (fun i => nTime Y hdd (ff (first + i)) i n) (s.2 2) n)))), (ar 3, .inl (0, 12, .inl (nF (nCl (fun _ => 0) (s.2 3) n)))), (ar 4, .inl (0, 12, .inl (nF (nCl (fun _ => 0) (s.2 4) n)))), (ar 5, .inl (0, 12, .inl (nF (nCl (fun _ => 0) (s.2 5) n)))), (ar 6, .inl (0, 360, .inl (nF (s.2 6)))), (ar 7, .inl (0, 12, .inl (nF (nCl (fun _ => 0) (s.2 7) n)))), (ar 8, .inl (0, 12, .inl (nF (nCl (fun _ => 0) (s.2 8) n)))), (ar 9, .inl (0, 12, .inl (nF (nCl (fun _ => 0) (s.2 9) n)))), (ar 10, .inl (0, 100, .inl (nF (nCl (fun _ => 0) (s.2 10) 0)))), (y, .inr (9, fYard ay (ysN Y wi))), (ay 1, .inl (0, 12, .inl nm)), (ay 2, .inl (0, 12, .inl (nF hdd))), (ay 3, .inl (0, 12, .inl (nF pcc))), (ay 4, .inl (0, 12, .inl (nF pww))), (ay 5, .inl (0, 64, .inl yf)), (ay 6, .inl (1, 64, .inl yb)), (f, .inl (0, fn, .inl (nF ff)))]) (by simp only [nCl_0]) ?_
  refine lp_beg2 ro y f fn ar ay yv s Y wi nm hdd pcc pww ff yf yb first n wl hd hn hfn hfn2 hff hY0 hY5 hY8 hY12 hhd ?_ 100 0 (by omega)
  refine zs_aload_n dX5_begin_143 rfl rfl ?_
  refine zs_iconst (v := nI 0) dX5_begin_144 (by decide) ?_
  refine zs_put 0 dX5_begin_145 zf_RX5_62 rfl (Nat.le_of_ble_eq_true rfl) (zPv_i _) ?_
  show zS _ _ _ _ _ _ [(ro, .inr (4, fRow ar (nF (un (un s.1 1 n) 12 0)) (.ref y))), (ar 1, .inl (0, 12, .inl (nF (nCl (fun i => ff (first + i)) (s.2 1) n)))), (ar 2, .inl (0, 12, .inl (nF (nCl (fun i => nTime Y hdd (ff (first + i)) i n) (s.2 2) n)))), (ar 3, .inl (0, 12, .inl (nF (nCl (fun _ => 0) (s.2 3) n)))), (ar 4, .inl (0, 12, .inl (nF (nCl (fun _ => 0) (s.2 4) n)))), (ar 5, .inl (0, 12, .inl (nF (nCl (fun _ => 0) (s.2 5) n)))), (ar 6, .inl (0, 360, .inl (nF (s.2 6)))), (ar 7, .inl (0, 12, .inl (nF (nCl (fun _ => 0) (s.2 7) n)))), (ar 8, .inl (0, 12, .inl (nF (nCl (fun _ => 0) (s.2 8) n)))), (ar 9, .inl (0, 12, .inl (nF (nCl (fun _ => 0) (s.2 9) n)))), (ar 10, .inl (0, 100, .inl (nF (nCl (fun _ => 0) (s.2 10) 100)))), (y, .inr (9, fYard ay (ysN Y wi))), (ay 1, .inl (0, 12, .inl nm)), (ay 2, .inl (0, 12, .inl (nF hdd))), (ay 3, .inl (0, 12, .inl (nF pcc))), (ay 4, .inl (0, 12, .inl (nF pww))), (ay 5, .inl (0, 64, .inl yf)), (ay 6, .inl (1, 64, .inl yb)), (f, .inl (0, fn, .inl (nF ff)))]
  refine zs_aload_n dX5_begin_148 rfl rfl ?_
  refine zs_aload_n dX5_begin_149 rfl rfl ?_
  refine zs_get 11 dX5_begin_150 zf_RX5_65 rfl (v := .int (nI (Y 6))) rfl ?_
  refine zs_put 0 dX5_begin_153 zf_RX5_68 rfl (Nat.le_of_ble_eq_true rfl) (zPv_i _) ?_
  show zS _ _ _ _ _ _ [(ro, .inr (4, fRow ar (nF (un (un (un s.1 1 n) 12 0) 13 (Y 6))) (.ref y))), (ar 1, .inl (0, 12, .inl (nF (nCl (fun i => ff (first + i)) (s.2 1) n)))), (ar 2, .inl (0, 12, .inl (nF (nCl (fun i => nTime Y hdd (ff (first + i)) i n) (s.2 2) n)))), (ar 3, .inl (0, 12, .inl (nF (nCl (fun _ => 0) (s.2 3) n)))), (ar 4, .inl (0, 12, .inl (nF (nCl (fun _ => 0) (s.2 4) n)))), (ar 5, .inl (0, 12, .inl (nF (nCl (fun _ => 0) (s.2 5) n)))), (ar 6, .inl (0, 360, .inl (nF (s.2 6)))), (ar 7, .inl (0, 12, .inl (nF (nCl (fun _ => 0) (s.2 7) n)))), (ar 8, .inl (0, 12, .inl (nF (nCl (fun _ => 0) (s.2 8) n)))), (ar 9, .inl (0, 12, .inl (nF (nCl (fun _ => 0) (s.2 9) n)))), (ar 10, .inl (0, 100, .inl (nF (nCl (fun _ => 0) (s.2 10) 100)))), (y, .inr (9, fYard ay (ysN Y wi))), (ay 1, .inl (0, 12, .inl nm)), (ay 2, .inl (0, 12, .inl (nF hdd))), (ay 3, .inl (0, 12, .inl (nF pcc))), (ay 4, .inl (0, 12, .inl (nF pww))), (ay 5, .inl (0, 64, .inl yf)), (ay 6, .inl (1, 64, .inl yb)), (f, .inl (0, fn, .inl (nF ff)))]
  refine zs_aload_n dX5_begin_156 rfl rfl ?_
  refine zs_iload dX5_begin_157 rfl ?_
  refine zs_put 0 dX5_begin_159 zf_RX5_71 rfl (Nat.le_of_ble_eq_true rfl) (zPv_i _) ?_
  show zS _ _ _ _ _ _ [(ro, .inr (4, fRow ar (nF (un (un (un (un s.1 1 n) 12 0) 13 (Y 6)) 14 wl)) (.ref y))), (ar 1, .inl (0, 12, .inl (nF (nCl (fun i => ff (first + i)) (s.2 1) n)))), (ar 2, .inl (0, 12, .inl (nF (nCl (fun i => nTime Y hdd (ff (first + i)) i n) (s.2 2) n)))), (ar 3, .inl (0, 12, .inl (nF (nCl (fun _ => 0) (s.2 3) n)))), (ar 4, .inl (0, 12, .inl (nF (nCl (fun _ => 0) (s.2 4) n)))), (ar 5, .inl (0, 12, .inl (nF (nCl (fun _ => 0) (s.2 5) n)))), (ar 6, .inl (0, 360, .inl (nF (s.2 6)))), (ar 7, .inl (0, 12, .inl (nF (nCl (fun _ => 0) (s.2 7) n)))), (ar 8, .inl (0, 12, .inl (nF (nCl (fun _ => 0) (s.2 8) n)))), (ar 9, .inl (0, 12, .inl (nF (nCl (fun _ => 0) (s.2 9) n)))), (ar 10, .inl (0, 100, .inl (nF (nCl (fun _ => 0) (s.2 10) 100)))), (y, .inr (9, fYard ay (ysN Y wi))), (ay 1, .inl (0, 12, .inl nm)), (ay 2, .inl (0, 12, .inl (nF hdd))), (ay 3, .inl (0, 12, .inl (nF pcc))), (ay 4, .inl (0, 12, .inl (nF pww))), (ay 5, .inl (0, 64, .inl yf)), (ay 6, .inl (1, 64, .inl yb)), (f, .inl (0, fn, .inl (nF ff)))]
  refine zs_aload_n dX5_begin_162 rfl rfl ?_
  refine zs_iconst (v := nI 0) dX5_begin_163 (by decide) ?_
  refine zs_put 0 dX5_begin_164 zf_RX5_74 rfl (Nat.le_of_ble_eq_true rfl) (zPv_i _) ?_
  show zS _ _ _ _ _ _ [(ro, .inr (4, fRow ar (nF (un (un (un (un (un s.1 1 n) 12 0) 13 (Y 6)) 14 wl) 15 0)) (.ref y))), (ar 1, .inl (0, 12, .inl (nF (nCl (fun i => ff (first + i)) (s.2 1) n)))), (ar 2, .inl (0, 12, .inl (nF (nCl (fun i => nTime Y hdd (ff (first + i)) i n) (s.2 2) n)))), (ar 3, .inl (0, 12, .inl (nF (nCl (fun _ => 0) (s.2 3) n)))), (ar 4, .inl (0, 12, .inl (nF (nCl (fun _ => 0) (s.2 4) n)))), (ar 5, .inl (0, 12, .inl (nF (nCl (fun _ => 0) (s.2 5) n)))), (ar 6, .inl (0, 360, .inl (nF (s.2 6)))), (ar 7, .inl (0, 12, .inl (nF (nCl (fun _ => 0) (s.2 7) n)))), (ar 8, .inl (0, 12, .inl (nF (nCl (fun _ => 0) (s.2 8) n)))), (ar 9, .inl (0, 12, .inl (nF (nCl (fun _ => 0) (s.2 9) n)))), (ar 10, .inl (0, 100, .inl (nF (nCl (fun _ => 0) (s.2 10) 100)))), (y, .inr (9, fYard ay (ysN Y wi))), (ay 1, .inl (0, 12, .inl nm)), (ay 2, .inl (0, 12, .inl (nF hdd))), (ay 3, .inl (0, 12, .inl (nF pcc))), (ay 4, .inl (0, 12, .inl (nF pww))), (ay 5, .inl (0, 64, .inl yf)), (ay 6, .inl (1, 64, .inl yb)), (f, .inl (0, fn, .inl (nF ff)))]
  refine zs_aload_n dX5_begin_167 rfl rfl ?_
  refine zs_iconst (v := nI 0) dX5_begin_168 (by decide) ?_
  refine zs_put 0 dX5_begin_169 zf_RX5_77 rfl (Nat.le_of_ble_eq_true rfl) (zPv_i _) ?_
  show zS _ _ _ _ _ _ [(ro, .inr (4, fRow ar (nF (un (un (un (un (un (un s.1 1 n) 12 0) 13 (Y 6)) 14 wl) 15 0) 16 0)) (.ref y))), (ar 1, .inl (0, 12, .inl (nF (nCl (fun i => ff (first + i)) (s.2 1) n)))), (ar 2, .inl (0, 12, .inl (nF (nCl (fun i => nTime Y hdd (ff (first + i)) i n) (s.2 2) n)))), (ar 3, .inl (0, 12, .inl (nF (nCl (fun _ => 0) (s.2 3) n)))), (ar 4, .inl (0, 12, .inl (nF (nCl (fun _ => 0) (s.2 4) n)))), (ar 5, .inl (0, 12, .inl (nF (nCl (fun _ => 0) (s.2 5) n)))), (ar 6, .inl (0, 360, .inl (nF (s.2 6)))), (ar 7, .inl (0, 12, .inl (nF (nCl (fun _ => 0) (s.2 7) n)))), (ar 8, .inl (0, 12, .inl (nF (nCl (fun _ => 0) (s.2 8) n)))), (ar 9, .inl (0, 12, .inl (nF (nCl (fun _ => 0) (s.2 9) n)))), (ar 10, .inl (0, 100, .inl (nF (nCl (fun _ => 0) (s.2 10) 100)))), (y, .inr (9, fYard ay (ysN Y wi))), (ay 1, .inl (0, 12, .inl nm)), (ay 2, .inl (0, 12, .inl (nF hdd))), (ay 3, .inl (0, 12, .inl (nF pcc))), (ay 4, .inl (0, 12, .inl (nF pww))), (ay 5, .inl (0, 64, .inl yf)), (ay 6, .inl (1, 64, .inl yb)), (f, .inl (0, fn, .inl (nF ff)))]
  refine zs_aload_n dX5_begin_172 rfl rfl ?_
  refine zs_iconst (v := nI 0) dX5_begin_173 (by decide) ?_
  refine zs_put 0 dX5_begin_174 zf_RX5_80 rfl (Nat.le_of_ble_eq_true rfl) (zPv_i _) ?_
  show zS _ _ _ _ _ _ [(ro, .inr (4, fRow ar (nF (un (un (un (un (un (un (un s.1 1 n) 12 0) 13 (Y 6)) 14 wl) 15 0) 16 0) 17 0)) (.ref y))), (ar 1, .inl (0, 12, .inl (nF (nCl (fun i => ff (first + i)) (s.2 1) n)))), (ar 2, .inl (0, 12, .inl (nF (nCl (fun i => nTime Y hdd (ff (first + i)) i n) (s.2 2) n)))), (ar 3, .inl (0, 12, .inl (nF (nCl (fun _ => 0) (s.2 3) n)))), (ar 4, .inl (0, 12, .inl (nF (nCl (fun _ => 0) (s.2 4) n)))), (ar 5, .inl (0, 12, .inl (nF (nCl (fun _ => 0) (s.2 5) n)))), (ar 6, .inl (0, 360, .inl (nF (s.2 6)))), (ar 7, .inl (0, 12, .inl (nF (nCl (fun _ => 0) (s.2 7) n)))), (ar 8, .inl (0, 12, .inl (nF (nCl (fun _ => 0) (s.2 8) n)))), (ar 9, .inl (0, 12, .inl (nF (nCl (fun _ => 0) (s.2 9) n)))), (ar 10, .inl (0, 100, .inl (nF (nCl (fun _ => 0) (s.2 10) 100)))), (y, .inr (9, fYard ay (ysN Y wi))), (ay 1, .inl (0, 12, .inl nm)), (ay 2, .inl (0, 12, .inl (nF hdd))), (ay 3, .inl (0, 12, .inl (nF pcc))), (ay 4, .inl (0, 12, .inl (nF pww))), (ay 5, .inl (0, 64, .inl yf)), (ay 6, .inl (1, 64, .inl yb)), (f, .inl (0, fn, .inl (nF ff)))]
  refine zs_aload_n dX5_begin_177 rfl rfl ?_
  refine zs_iconst (v := nI 0) dX5_begin_178 (by decide) ?_
  refine zs_put 0 dX5_begin_179 zf_RX5_83 rfl (Nat.le_of_ble_eq_true rfl) (zPv_i _) ?_
  show zS _ _ _ _ _ _ [(ro, .inr (4, fRow ar (nF (un (un (un (un (un (un (un (un s.1 1 n) 12 0) 13 (Y 6)) 14 wl) 15 0) 16 0) 17 0) 18 0)) (.ref y))), (ar 1, .inl (0, 12, .inl (nF (nCl (fun i => ff (first + i)) (s.2 1) n)))), (ar 2, .inl (0, 12, .inl (nF (nCl (fun i => nTime Y hdd (ff (first + i)) i n) (s.2 2) n)))), (ar 3, .inl (0, 12, .inl (nF (nCl (fun _ => 0) (s.2 3) n)))), (ar 4, .inl (0, 12, .inl (nF (nCl (fun _ => 0) (s.2 4) n)))), (ar 5, .inl (0, 12, .inl (nF (nCl (fun _ => 0) (s.2 5) n)))), (ar 6, .inl (0, 360, .inl (nF (s.2 6)))), (ar 7, .inl (0, 12, .inl (nF (nCl (fun _ => 0) (s.2 7) n)))), (ar 8, .inl (0, 12, .inl (nF (nCl (fun _ => 0) (s.2 8) n)))), (ar 9, .inl (0, 12, .inl (nF (nCl (fun _ => 0) (s.2 9) n)))), (ar 10, .inl (0, 100, .inl (nF (nCl (fun _ => 0) (s.2 10) 100)))), (y, .inr (9, fYard ay (ysN Y wi))), (ay 1, .inl (0, 12, .inl nm)), (ay 2, .inl (0, 12, .inl (nF hdd))), (ay 3, .inl (0, 12, .inl (nF pcc))), (ay 4, .inl (0, 12, .inl (nF pww))), (ay 5, .inl (0, 64, .inl yf)), (ay 6, .inl (1, 64, .inl yb)), (f, .inl (0, fn, .inl (nF ff)))]
  exact zs_vret dX5_begin_182 rfl ⟨rfl, rfl⟩
