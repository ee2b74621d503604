/-! ===== the reference: fires ===== -/
theorem dX13_fires_0 : decode cX13_fires 0 = .ok (.aload_n 0, 1) := by decide +kernel
theorem dX13_fires_1 : decode cX13_fires 1 = .ok (.aload_n 0, 1) := by decide +kernel
theorem dX13_fires_2 : decode cX13_fires 2 = .ok (.invokevirtual 436, 3) := by decide +kernel
theorem dX13_fires_5 : decode cX13_fires 5 = .ok (.ifCond .ne 7, 3) := by decide +kernel
theorem dX13_fires_8 : decode cX13_fires 8 = .ok (.iconst 0, 1) := by decide +kernel
theorem dX13_fires_9 : decode cX13_fires 9 = .ok (.goto 4, 3) := by decide +kernel
theorem dX13_fires_12 : decode cX13_fires 12 = .ok (.iconst (-1), 1) := by decide +kernel
theorem dX13_fires_13 : decode cX13_fires 13 = .ok (.putfield 439, 3) := by decide +kernel
theorem dX13_fires_16 : decode cX13_fires 16 = .ok (.iconst 0, 1) := by decide +kernel
theorem dX13_fires_17 : decode cX13_fires 17 = .ok (.istore 5, 2) := by decide +kernel
theorem dX13_fires_19 : decode cX13_fires 19 = .ok (.iload 5, 2) := by decide +kernel
theorem dX13_fires_21 : decode cX13_fires 21 = .ok (.iload_n 1, 1) := by decide +kernel
theorem dX13_fires_22 : decode cX13_fires 22 = .ok (.if_icmp .ge 131, 3) := by decide +kernel
theorem dX13_fires_25 : decode cX13_fires 25 = .ok (.iconst 0, 1) := by decide +kernel
theorem dX13_fires_26 : decode cX13_fires 26 = .ok (.istore 6, 2) := by decide +kernel
theorem dX13_fires_28 : decode cX13_fires 28 = .ok (.iload 6, 2) := by decide +kernel
theorem dX13_fires_30 : decode cX13_fires 30 = .ok (.aload_n 0, 1) := by decide +kernel
theorem dX13_fires_31 : decode cX13_fires 31 = .ok (.invokevirtual 426, 3) := by decide +kernel
theorem dX13_fires_34 : decode cX13_fires 34 = .ok (.if_icmp .ge 49, 3) := by decide +kernel
theorem dX13_fires_37 : decode cX13_fires 37 = .ok (.aload_n 0, 1) := by decide +kernel
theorem dX13_fires_38 : decode cX13_fires 38 = .ok (.getfield 117, 3) := by decide +kernel
theorem dX13_fires_41 : decode cX13_fires 41 = .ok (.bipush 64, 2) := by decide +kernel
theorem dX13_fires_43 : decode cX13_fires 43 = .ok (.iload 5, 2) := by decide +kernel
theorem dX13_fires_45 : decode cX13_fires 45 = .ok (.imul, 1) := by decide +kernel
theorem dX13_fires_46 : decode cX13_fires 46 = .ok (.iload 6, 2) := by decide +kernel
theorem dX13_fires_48 : decode cX13_fires 48 = .ok (.iadd, 1) := by decide +kernel
theorem dX13_fires_49 : decode cX13_fires 49 = .ok (.aload_n 0, 1) := by decide +kernel
theorem dX13_fires_50 : decode cX13_fires 50 = .ok (.getfield 105, 3) := by decide +kernel
theorem dX13_fires_53 : decode cX13_fires 53 = .ok (.iload 6, 2) := by decide +kernel
theorem dX13_fires_55 : decode cX13_fires 55 = .ok (.iaload, 1) := by decide +kernel
theorem dX13_fires_56 : decode cX13_fires 56 = .ok (.iastore, 1) := by decide +kernel
theorem dX13_fires_57 : decode cX13_fires 57 = .ok (.aload_n 0, 1) := by decide +kernel
theorem dX13_fires_58 : decode cX13_fires 58 = .ok (.getfield 120, 3) := by decide +kernel
theorem dX13_fires_61 : decode cX13_fires 61 = .ok (.bipush 64, 2) := by decide +kernel
theorem dX13_fires_63 : decode cX13_fires 63 = .ok (.iload 5, 2) := by decide +kernel
theorem dX13_fires_65 : decode cX13_fires 65 = .ok (.imul, 1) := by decide +kernel
theorem dX13_fires_66 : decode cX13_fires 66 = .ok (.iload 6, 2) := by decide +kernel
theorem dX13_fires_68 : decode cX13_fires 68 = .ok (.iadd, 1) := by decide +kernel
theorem dX13_fires_69 : decode cX13_fires 69 = .ok (.aload_n 0, 1) := by decide +kernel
theorem dX13_fires_70 : decode cX13_fires 70 = .ok (.getfield 108, 3) := by decide +kernel
theorem dX13_fires_73 : decode cX13_fires 73 = .ok (.iload 6, 2) := by decide +kernel
theorem dX13_fires_75 : decode cX13_fires 75 = .ok (.iaload, 1) := by decide +kernel
theorem dX13_fires_76 : decode cX13_fires 76 = .ok (.iastore, 1) := by decide +kernel
theorem dX13_fires_77 : decode cX13_fires 77 = .ok (.iinc 6 1, 3) := by decide +kernel
theorem dX13_fires_80 : decode cX13_fires 80 = .ok (.goto (-52), 3) := by decide +kernel
theorem dX13_fires_83 : decode cX13_fires 83 = .ok (.iload 5, 2) := by decide +kernel
theorem dX13_fires_85 : decode cX13_fires 85 = .ok (.iload 4, 2) := by decide +kernel
theorem dX13_fires_87 : decode cX13_fires 87 = .ok (.if_icmp .ge 7, 3) := by decide +kernel
theorem dX13_fires_90 : decode cX13_fires 90 = .ok (.iconst 0, 1) := by decide +kernel
theorem dX13_fires_91 : decode cX13_fires 91 = .ok (.goto 8, 3) := by decide +kernel
theorem dX13_fires_94 : decode cX13_fires 94 = .ok (.iload 5, 2) := by decide +kernel
theorem dX13_fires_96 : decode cX13_fires 96 = .ok (.iload 4, 2) := by decide +kernel
theorem dX13_fires_98 : decode cX13_fires 98 = .ok (.isub, 1) := by decide +kernel
theorem dX13_fires_99 : decode cX13_fires 99 = .ok (.istore 6, 2) := by decide +kernel
theorem dX13_fires_101 : decode cX13_fires 101 = .ok (.aload_n 0, 1) := by decide +kernel
theorem dX13_fires_102 : decode cX13_fires 102 = .ok (.aload_n 0, 1) := by decide +kernel
theorem dX13_fires_103 : decode cX13_fires 103 = .ok (.iload_n 3, 1) := by decide +kernel
theorem dX13_fires_104 : decode cX13_fires 104 = .ok (.aload_n 0, 1) := by decide +kernel
theorem dX13_fires_105 : decode cX13_fires 105 = .ok (.getfield 117, 3) := by decide +kernel
theorem dX13_fires_108 : decode cX13_fires 108 = .ok (.aload_n 0, 1) := by decide +kernel
theorem dX13_fires_109 : decode cX13_fires 109 = .ok (.getfield 120, 3) := by decide +kernel
theorem dX13_fires_112 : decode cX13_fires 112 = .ok (.bipush 64, 2) := by decide +kernel
theorem dX13_fires_114 : decode cX13_fires 114 = .ok (.iload 6, 2) := by decide +kernel
theorem dX13_fires_116 : decode cX13_fires 116 = .ok (.imul, 1) := by decide +kernel
theorem dX13_fires_117 : decode cX13_fires 117 = .ok (.invokevirtual 442, 3) := by decide +kernel
theorem dX13_fires_120 : decode cX13_fires 120 = .ok (.iload_n 2, 1) := by decide +kernel
theorem dX13_fires_121 : decode cX13_fires 121 = .ok (.invokevirtual 445, 3) := by decide +kernel
theorem dX13_fires_124 : decode cX13_fires 124 = .ok (.aload_n 0, 1) := by decide +kernel
theorem dX13_fires_125 : decode cX13_fires 125 = .ok (.getfield 439, 3) := by decide +kernel
theorem dX13_fires_128 : decode cX13_fires 128 = .ok (.iconst (-1), 1) := by decide +kernel
theorem dX13_fires_129 : decode cX13_fires 129 = .ok (.if_icmp .ne 18, 3) := by decide +kernel
theorem dX13_fires_132 : decode cX13_fires 132 = .ok (.aload_n 0, 1) := by decide +kernel
theorem dX13_fires_133 : decode cX13_fires 133 = .ok (.invokevirtual 436, 3) := by decide +kernel
theorem dX13_fires_136 : decode cX13_fires 136 = .ok (.ifCond .ne 11, 3) := by decide +kernel
theorem dX13_fires_139 : decode cX13_fires 139 = .ok (.aload_n 0, 1) := by decide +kernel
theorem dX13_fires_140 : decode cX13_fires 140 = .ok (.iload 5, 2) := by decide +kernel
theorem dX13_fires_142 : decode cX13_fires 142 = .ok (.iconst 1, 1) := by decide +kernel
theorem dX13_fires_143 : decode cX13_fires 143 = .ok (.iadd, 1) := by decide +kernel
theorem dX13_fires_144 : decode cX13_fires 144 = .ok (.putfield 439, 3) := by decide +kernel
theorem dX13_fires_147 : decode cX13_fires 147 = .ok (.iinc 5 1, 3) := by decide +kernel
theorem dX13_fires_150 : decode cX13_fires 150 = .ok (.goto (-131), 3) := by decide +kernel
theorem dX13_fires_153 : decode cX13_fires 153 = .ok (.return_, 1) := by decide +kernel
/-- k things of x from place b on, old elsewhere -/
def sOv (b : Nat) (x old : Nat → Int32) (k : Nat) : Nat → Int32 := fun j => if b ≤ j ∧ j < b + k then x (j - b) else old j
theorem sOv_0 {b : Nat} {x old : Nat → Int32} : sOv b x old 0 = old := by
  funext j
  exact if_neg (by omega)
theorem sOv_s {b : Nat} {x old : Nat → Int32} {k : Nat} : upd (sOv b x old k) (b + k) (x k) = sOv b x old (k + 1) := by
  funext j
  simp only [upd, sOv]
  by_cases h : j = b + k
  · rw [if_pos h, if_pos (by omega), h, show b + k - b = k by omega]
  · rw [if_neg h]
    by_cases h2 : b ≤ j ∧ j < b + k
    · rw [if_pos h2, if_pos (by omega)]
    · rw [if_neg h2, if_neg (by omega)]
theorem sOv_i {b : Nat} {x old : Nat → Int32} {k i : Nat} (h : i < k) : sOv b x old k (b + i) = x i := by
  unfold sOv
  rw [if_pos (by omega), show b + i - b = i by omega]
theorem sOv_o {b : Nat} {x old : Nat → Int32} {k j : Nat} (h : j < b ∨ b + k ≤ j) : sOv b x old k j = old j := if_neg (by omega)
section
variable {C R : Nat} {wi a v : Int32} {late : Nat} {s0 : zFs} {se0 : Nat → Int32}
theorem fS_se : ∀ i j, j ≤ i → (fS C R wi a v late s0 se0 (i + 1)).2 j = mAim C R wi (fS C R wi a v late s0 se0 j).1 a := by
  intro i
  induction i with
  | zero =>
    intro j hj
    rw [show j = 0 by omega]
    exact upd_s se0 0 (mAim C R wi s0 a)
  | succ i ih =>
    intro j hj
    by_cases h : j = i + 1
    · subst h; exact if_pos rfl
    · exact (if_neg h).trans (ih j (by omega))
theorem fC_e (i : Nat) : fC C R wi a v late s0 se0 i = mAim C R wi (fS C R wi a v late s0 se0 (i - late)).1 a := fS_se i (i - late) (Nat.sub_le _ _)
theorem fS_n (i : Nat) : (fS C R wi a v late s0 se0 (i + 1)).1 = mMin C R wi (fS C R wi a v late s0 se0 i).1 (fC C R wi a v late s0 se0 i) v := rfl
theorem fO_k {i : Nat} {o0 : Int32} (h : ¬ fO C R wi a v late s0 se0 o0 i = -1) : fO C R wi a v late s0 se0 o0 i = fO C R wi a v late s0 se0 o0 (i + 1) := by
  rw [fO]
  by_cases q : mBn C R wi (fS C R wi a v late s0 se0 i).1 (fC C R wi a v late s0 se0 i) v = 0
  · rw [if_pos q, if_neg h]
  · rw [if_neg q]
theorem fO_n {i : Nat} {o0 : Int32} (q : ¬ mBn C R wi (fS C R wi a v late s0 se0 i).1 (fC C R wi a v late s0 se0 i) v = 0) : fO C R wi a v late s0 se0 o0 i = fO C R wi a v late s0 se0 o0 (i + 1) := by
  rw [fO, if_neg q]
theorem fO_y {i : Nat} {o0 : Int32} (q : mBn C R wi (fS C R wi a v late s0 se0 i).1 (fC C R wi a v late s0 se0 i) v = 0) (h : fO C R wi a v late s0 se0 o0 i = -1) : nI (i + 1) = fO C R wi a v late s0 se0 o0 (i + 1) := by
  rw [fO, if_pos q, if_pos h]
theorem mBn_e (s : zFs) (c v : Int32) : pCnt (mMin C R wi s c v).2.2 (C * R) = mBn C R wi s c v := pCnt_ag (fun j hj => if_pos hj)
end
theorem pAim_c {C n : Nat} {fu bu hh : Nat → Int32} {x : Int32} (h : x = nI 0 ∨ x = nI 1 ∨ x = nI 2 ∨ x = nI 3 ∨ nI 100 ≤ x) (h2 : nI 100 ≤ x → aC n ((x - 100) / 10 * nI C + ((x - 100) - (x - 100) / 10 * 10))) : aC n (pAim C n fu bu hh x) := by
  have he : ∀ (bt : Int32 → Int32 → Bool) (f b : Nat → Int32), aC n (eO (pBst bt f b n)) := fun bt f b => by
    cases q : pBst bt f b n with
    | none => exact Or.inl rfl
    | some j => exact Or.inr ⟨j, pBst_lt q, rfl⟩
  unfold pAim
  by_cases ha : x < 100
  · rw [if_pos ha]
    by_cases h3 : x = 3
    · rw [if_pos h3]
      by_cases hz : eO (pHot fu bu hh n) = -1
      · rw [if_pos hz]; exact he _ _ _
      · rw [if_neg hz]; exact he _ _ _
    · rw [if_neg h3]
      by_cases h1 : x = 1
      · rw [if_pos h1]; exact he _ _ _
      · rw [if_neg h1]
        by_cases h22 : x = 2
        · rw [if_pos h22]; exact he _ _ _
        · rw [if_neg h22]; exact Or.inl rfl
  · rw [if_neg ha]
    exact h2 (Int32.not_lt.mp ha)
/-- an aim that may be told -/
def aO (C R : Nat) (x : Int32) : Prop := (x = nI 0 ∨ x = nI 1 ∨ x = nI 2 ∨ x = nI 3 ∨ nI 100 ≤ x) ∧ (nI 100 ≤ x → aC (C * R) ((x - 100) / 10 * nI C + ((x - 100) - (x - 100) / 10 * 10)))
theorem aO_T {C R : Nat} {x : Int32} (hC : C ≤ 8) (hR : R ≤ 8) (h : pTold (nI C) (nI R) x = true) : aO C R x := by
  unfold pTold at h
  rw [Bool.or_eq_true, decide_eq_true_iff, decide_eq_true_iff] at h
  rcases h with ⟨h0, h3⟩ | h
  · have h0' : ¬ x < 0 := Int32.not_lt.mpr h0
    obtain ⟨k, hk, rfl⟩ := zi_nn h0'
    rw [show (3 : Int32) = nI 3 from rfl, nI_le' hk (by omega)] at h3
    refine ⟨?_, fun q => by rw [nI_le' (by omega) hk] at q; omega⟩
    have : k = 0 ∨ k = 1 ∨ k = 2 ∨ k = 3 := by omega
    rcases this with rfl | rfl | rfl | rfl
    · exact Or.inl rfl
    · exact Or.inr (Or.inl rfl)
    · exact Or.inr (Or.inr (Or.inl rfl))
    · exact Or.inr (Or.inr (Or.inr (Or.inl rfl)))
  · by_cases h100 : 100 ≤ x
    · have h1 : ¬ x < 0 := fun q => absurd (Int32.lt_of_le_of_lt h100 q) (by decide)
      obtain ⟨k, hk, rfl⟩ := zi_nn h1
      have hk1 : 100 ≤ k := (nI_le' (by omega) hk).mp h100
      refine ⟨Or.inr (Or.inr (Or.inr (Or.inr h100))), fun _ => ?_⟩
      unfold pAc at h
      rw [if_pos h100] at h
      have e1 : nI k - 100 = nI (k - 100) := nI_sub hk1
      have e2 : nI (k - 100) / 10 = nI ((k - 100) / 10) := nI_div (b := 10) (by omega) (by omega) (by omega)
      have e3 : nI ((k - 100) / 10) * 10 = nI ((k - 100) / 10 * 10) := nI_mul _ _
      have e4 : nI (k - 100) - nI ((k - 100) / 10 * 10) = nI (k - 100 - (k - 100) / 10 * 10) := nI_sub (by omega)
      rw [e1, e2, e3, e4] at h ⊢
      by_cases g1 : nI C ≤ nI (k - 100 - (k - 100) / 10 * 10)
      · rw [if_pos g1] at h; exact absurd rfl h
      · rw [if_neg g1] at h
        by_cases g2 : nI R ≤ nI ((k - 100) / 10)
        · rw [if_pos g2] at h; exact absurd rfl h
        · rw [nI_le' (by omega) (by omega)] at g1 g2
          exact Or.inr ⟨(k - 100) / 10 * C + (k - 100 - (k - 100) / 10 * 10), yx_l (by omega) (by omega), by rw [nI_mul, nI_add]⟩
    · unfold pAc at h
      rw [if_neg h100] at h
      exact absurd rfl h
theorem fS_K {C R V u : Nat} {wi a : Int32} {late : Nat} {s0 : zFs} {se0 : Nat → Int32} (hn : C * R ≤ 64) (ha : aO C R a) (hs : fK (C * R) V s0) : ∀ i, fK (C * R) (V + u * i) (fS C R wi a (nI u) late s0 se0 i).1
  | 0 => by rw [Nat.mul_zero, Nat.add_zero]; exact hs
  | i + 1 => by
    rw [Nat.mul_succ, ← Nat.add_assoc, fS_n]
    refine fK_min (fS_K hn ha hs i) hn ?_
    rw [fC_e]
    exact pAim_c ha.1 ha.2
theorem up71 {g : Nat → Int32} {x y z : Int32} : upd (upd (upd g 70 x) 71 y) 70 z = upd (upd g 70 z) 71 y := by
  funext j
  simp only [upd]
  by_cases h : j = 70
  · rw [if_pos h, if_neg (by omega), if_pos h]
  · rw [if_neg h, if_neg h, if_neg h]
set_option maxRecDepth 100000 in
theorem lp_mfw {l : Launch} {dd : Nat} {Po : zPo} {K0 : zK} {h0 : List va_E} {Xo : zK → Prop} {Gc : zG → Prop} (mo : Nat) (e : Nat → Nat) (g : Nat → Int32) (w : Int64) (nw : Nat → Int32) (D : zYd) (fu bu we he fw bw : Nat → Int32) (i0 M u la : Nat) (a : Int32) (hd : 1 ≤ dd) (hR : yR D nw) (hC : D.1 14 ≤ 8) (hRo : D.1 15 ≤ 8) (hi0 : i0 < 60)
    (hk : zS (l, mX13_fires, dd, Po, K0, h0, Xo, Gc) 0 0 83 [(0, .ref mo), (1, .int (nI M)), (2, .int (nI u)), (3, .int a), (4, .int (nI la)), (5, .int (nI i0))] [] [(mo, .inr (11, fMo e g w)), ((e 14), .inl (0, 800, .inl nw)), ((e 64), .inl (0, 64, .inl fu)), ((e 65), .inl (0, 64, .inl bu)), ((e 66), .inl (0, 64, .inl we)), ((e 67), .inl (0, 64, .inl he)), ((e 68), .inl (0, 3904, .inl (sOv (64 * i0) fu fw (D.1 14 * D.1 15)))), ((e 69), .inl (0, 3904, .inl (sOv (64 * i0) bu bw (D.1 14 * D.1 15))))]) :
    ∀ (m i : Nat) , i + m = (D.1 14 * D.1 15) → zS (l, mX13_fires, dd, Po, K0, h0, Xo, Gc) 0 0 28 [(0, .ref mo), (1, .int (nI M)), (2, .int (nI u)), (3, .int a), (4, .int (nI la)), (5, .int (nI i0)), (6, .int (nI i))] [] [(mo, .inr (11, fMo e g w)), ((e 14), .inl (0, 800, .inl nw)), ((e 64), .inl (0, 64, .inl fu)), ((e 65), .inl (0, 64, .inl bu)), ((e 66), .inl (0, 64, .inl we)), ((e 67), .inl (0, 64, .inl he)), ((e 68), .inl (0, 3904, .inl (sOv (64 * i0) fu fw i))), ((e 69), .inl (0, 3904, .inl (sOv (64 * i0) bu bw i)))] := by
  intro m
  induction m with
  | zero =>
    intro i hi
    have h64 : D.1 14 * D.1 15 ≤ 64 := Nat.mul_le_mul hC hRo
    refine zs_iload dX13_fires_28 rfl ?_
    refine zs_aload_n dX13_fires_30 rfl rfl ?_
    refine zs_callV (M := mX13_cells) (As := []) (st := [.int (nI i)]) (Kc := [(mo, .inr (11, fMo e g w)), ((e 14), .inl (0, 800, .inl nw))]) (Kr := [((e 64), .inl (0, 64, .inl fu)), ((e 65), .inl (0, 64, .inl bu)), ((e 66), .inl (0, 64, .inl we)), ((e 67), .inl (0, 64, .inl he)), ((e 68), .inl (0, 3904, .inl (sOv (64 * i0) fu fw i))), ((e 69), .inl (0, 3904, .inl (sOv (64 * i0) bu bw i)))]) [0, 1] [2, 3, 4, 5, 6, 7] 0 dX13_fires_31 zl_RX13_426 kX13_cells rfl rfl rfl rfl rfl (by decide) rfl rfl (show dd - 1 + 1 ≤ dd by omega) (Nat.zero_le _) (Nat.zero_le _) (Nat.le_of_ble_eq_true rfl) (s_mCells l (dd - 1) mo e g w nw D hR) (fun r K1 hr => ?_)
    obtain ⟨rfl, rfl⟩ := hr
    refine zs_K (K' := [(mo, .inr (11, fMo e g w)), ((e 14), .inl (0, 800, .inl nw)), ((e 64), .inl (0, 64, .inl fu)), ((e 65), .inl (0, 64, .inl bu)), ((e 66), .inl (0, 64, .inl we)), ((e 67), .inl (0, 64, .inl he)), ((e 68), .inl (0, 3904, .inl (sOv (64 * i0) fu fw i))), ((e 69), .inl (0, 3904, .inl (sOv (64 * i0) bu bw i)))]) [6, 7, 0, 1, 2, 3, 4, 5] rfl (by decide) ?_
    refine zs_icmp_ge (tgt := 83) dX13_fires_34 (by decide) (fun c_1 => ?_) (fun c_1 => (c_1 (by rw [show i = (D.1 14 * D.1 15) by omega]; exact Int32.le_refl _) : False).elim)
    rw [show i = (D.1 14 * D.1 15) by omega]
    refine zs_lv [0, 1, 2, 3, 4, 5] rfl ?_
    exact hk
  | succ m ih =>
    intro i hi
    have h64 : D.1 14 * D.1 15 ≤ 64 := Nat.mul_le_mul hC hRo
    refine zs_iload dX13_fires_28 rfl ?_
    refine zs_aload_n dX13_fires_30 rfl rfl ?_
    refine zs_callV (M := mX13_cells) (As := []) (st := [.int (nI i)]) (Kc := [(mo, .inr (11, fMo e g w)), ((e 14), .inl (0, 800, .inl nw))]) (Kr := [((e 64), .inl (0, 64, .inl fu)), ((e 65), .inl (0, 64, .inl bu)), ((e 66), .inl (0, 64, .inl we)), ((e 67), .inl (0, 64, .inl he)), ((e 68), .inl (0, 3904, .inl (sOv (64 * i0) fu fw i))), ((e 69), .inl (0, 3904, .inl (sOv (64 * i0) bu bw i)))]) [0, 1] [2, 3, 4, 5, 6, 7] 0 dX13_fires_31 zl_RX13_426 kX13_cells rfl rfl rfl rfl rfl (by decide) rfl rfl (show dd - 1 + 1 ≤ dd by omega) (Nat.zero_le _) (Nat.zero_le _) (Nat.le_of_ble_eq_true rfl) (s_mCells l (dd - 1) mo e g w nw D hR) (fun r K1 hr => ?_)
    obtain ⟨rfl, rfl⟩ := hr
    refine zs_K (K' := [(mo, .inr (11, fMo e g w)), ((e 14), .inl (0, 800, .inl nw)), ((e 64), .inl (0, 64, .inl fu)), ((e 65), .inl (0, 64, .inl bu)), ((e 66), .inl (0, 64, .inl we)), ((e 67), .inl (0, 64, .inl he)), ((e 68), .inl (0, 3904, .inl (sOv (64 * i0) fu fw i))), ((e 69), .inl (0, 3904, .inl (sOv (64 * i0) bu bw i)))]) [6, 7, 0, 1, 2, 3, 4, 5] rfl (by decide) ?_
    refine zs_icmp_ge (tgt := 83) dX13_fires_34 (by decide) (fun c_1 => (nI_ge (show i < (D.1 14 * D.1 15) by omega) (by omega) c_1 : False).elim) (fun c_1 => ?_)
    refine zs_aload_n dX13_fires_37 rfl rfl ?_
    refine zs_get 0 dX13_fires_38 zf_RX13_117 rfl (v := .ref (e 68)) rfl ?_
    refine zs_bipush (v := nI 64) dX13_fires_41 (by decide) ?_
    refine zs_iload dX13_fires_43 rfl ?_
    refine zs_imul dX13_fires_45 ?_
    refine zs_as (y := nI (64 * i0)) (nI_mul _ _) ?_
    refine zs_iload dX13_fires_46 rfl ?_
    refine zs_iadd dX13_fires_48 ?_
    refine zs_as (y := nI ((64 * i0) + i)) (nI_add _ _) ?_
    refine zs_aload_n dX13_fires_49 rfl rfl ?_
    refine zs_get 0 dX13_fires_50 zf_RX13_105 rfl (v := .ref (e 64)) rfl ?_
    refine zs_iload dX13_fires_53 rfl ?_
    refine zs_iald 2 dX13_fires_55 rfl (vp_in_nI (by omega) (by omega)) ?_
    refine zs_as (y := fu i) (by rw [nI_c (n := i) (by omega)]) ?_
    refine zs_iast 6 dX13_fires_56 rfl (vp_in_nI (by omega) (by omega)) ?_
    rw [nI_c (n := (64 * i0) + i) (by omega)]
    rw [show (upd (sOv (64 * i0) fu fw i) ((64 * i0) + i) (fu i)) = sOv (64 * i0) fu fw (i + 1) from sOv_s]
    show zS _ _ _ _ _ _ [(mo, .inr (11, fMo e g w)), ((e 14), .inl (0, 800, .inl nw)), ((e 64), .inl (0, 64, .inl fu)), ((e 65), .inl (0, 64, .inl bu)), ((e 66), .inl (0, 64, .inl we)), ((e 67), .inl (0, 64, .inl he)), ((e 68), .inl (0, 3904, .inl (sOv (64 * i0) fu fw (i + 1)))), ((e 69), .inl (0, 3904, .inl (sOv (64 * i0) bu bw i)))]
    refine zs_aload_n dX13_fires_57 rfl rfl ?_
    refine zs_get 0 dX13_fires_58 zf_RX13_120 rfl (v := .ref (e 69)) rfl ?_
    refine zs_bipush (v := nI 64) dX13_fires_61 (by decide) ?_
    refine zs_iload dX13_fires_63 rfl ?_
    refine zs_imul dX13_fires_65 ?_
    refine zs_as (y := nI (64 * i0)) (nI_mul _ _) ?_
    refine zs_iload dX13_fires_66 rfl ?_
    refine zs_iadd dX13_fires_68 ?_
    refine zs_as (y := nI ((64 * i0) + i)) (nI_add _ _) ?_
    refine zs_aload_n dX13_fires_69 rfl rfl ?_
    refine zs_get 0 dX13_fires_70 zf_RX13_108 rfl (v := .ref (e 65)) rfl ?_
    refine zs_iload dX13_fires_73 rfl ?_
    refine zs_iald 3 dX13_fires_75 rfl (vp_in_nI (by omega) (by omega)) ?_
    refine zs_as (y := bu i) (by rw [nI_c (n := i) (by omega)]) ?_
    refine zs_iast 7 dX13_fires_76 rfl (vp_in_nI (by omega) (by omega)) ?_
    rw [nI_c (n := (64 * i0) + i) (by omega)]
    rw [show (upd (sOv (64 * i0) bu bw i) ((64 * i0) + i) (bu i)) = sOv (64 * i0) bu bw (i + 1) from sOv_s]
    show zS _ _ _ _ _ _ [(mo, .inr (11, fMo e g w)), ((e 14), .inl (0, 800, .inl nw)), ((e 64), .inl (0, 64, .inl fu)), ((e 65), .inl (0, 64, .inl bu)), ((e 66), .inl (0, 64, .inl we)), ((e 67), .inl (0, 64, .inl he)), ((e 68), .inl (0, 3904, .inl (sOv (64 * i0) fu fw (i + 1)))), ((e 69), .inl (0, 3904, .inl (sOv (64 * i0) bu bw (i + 1))))]
    refine zs_iinc (v := (nI (i + 1))) (lv' := [(6, .int (nI (i + 1))), (0, .ref mo), (1, .int (nI M)), (2, .int (nI u)), (3, .int a), (4, .int (nI la)), (5, .int (nI i0))]) dX13_fires_77 rfl (nI_add _ 1) (Nat.le_of_ble_eq_true rfl) rfl ?_
    refine zs_goto (tgt := 28) dX13_fires_80 (by decide) ?_
    refine zs_lv [1, 2, 3, 4, 5, 6, 0] rfl ?_
    exact ih (i + 1) (by omega)
/-- what the first i minutes began with, as it was kept -/
def wH (n : Nat) (S : Nat → zFs) (fw bw : Nat → Int32) (i : Nat) : Prop := ∀ t, t < i → ∀ c, c < n → fw (64 * t + c) = (S t).1 c ∧ bw (64 * t + c) = (S t).2.2 c
theorem wH_s {n : Nat} {S : Nat → zFs} {fw bw : Nat → Int32} {i : Nat} (h : wH n S fw bw i) (hn : n ≤ 64) : wH n S (sOv (64 * i) (S i).1 fw n) (sOv (64 * i) (S i).2.2 bw n) (i + 1) := fun t ht c hc => by
  by_cases q : t = i
  · subst q; exact ⟨sOv_i hc, sOv_i hc⟩
  · rw [sOv_o (by omega), sOv_o (by omega)]
    exact h t (by omega) c hc
set_option maxRecDepth 100000 in
theorem lp_mfires {l : Launch} {dd : Nat} {Po : zPo} {K0 : zK} {h0 : List va_E} {Xo : zK → Prop} {Gc : zG → Prop} (mo : Nat) (e : Nat → Nat) (g : Nat → Int32) (w : Int64) (nw : Nat → Int32) (D : zYd) (s : zFs) (M u la V : Nat) (a g70 o0 : Int32) (hd : 4 ≤ dd) (hR : yR D nw) (hC : D.1 14 ≤ 8) (hRo : D.1 15 ≤ 8) (hs : fK (D.1 14 * D.1 15) V s) (hV : V + u * 60 < 2147483648) (ha : aO (D.1 14) (D.1 15) a) (hM : M ≤ 60) (hla : la ≤ 20)
    (hk : ∀ (fw bw he : Nat → Int32), zS (l, mX13_fires, dd, Po, K0, h0, Xo, Gc) 0 0 153 [] [] [(mo, .inr (11, fMo e (upd (upd g 70 (fL (D.1 14) (D.1 15) D.2.1 a (nI u) la s z0 g70 M)) 71 (fO (D.1 14) (D.1 15) D.2.1 a (nI u) la s z0 o0 M)) w)), ((e 14), .inl (0, 800, .inl nw)), ((e 64), .inl (0, 64, .inl (((fS (D.1 14) (D.1 15) D.2.1 a (nI u) la s z0 M).1).1))), ((e 65), .inl (0, 64, .inl (((fS (D.1 14) (D.1 15) D.2.1 a (nI u) la s z0 M).1).2.2))), ((e 66), .inl (0, 64, .inl (((fS (D.1 14) (D.1 15) D.2.1 a (nI u) la s z0 M).1).2.1))), ((e 67), .inl (0, 64, .inl he)), ((e 68), .inl (0, 3904, .inl fw)), ((e 69), .inl (0, 3904, .inl bw))]) :
    ∀ (m i : Nat) (fw bw he : Nat → Int32), i + m = M → wH (D.1 14 * D.1 15) (fun t => (fS (D.1 14) (D.1 15) D.2.1 a (nI u) la s z0 t).1) fw bw i → zS (l, mX13_fires, dd, Po, K0, h0, Xo, Gc) 0 0 19 [(0, .ref mo), (1, .int (nI M)), (2, .int (nI u)), (3, .int a), (4, .int (nI la)), (5, .int (nI i))] [] [(mo, .inr (11, fMo e (upd (upd g 70 (fL (D.1 14) (D.1 15) D.2.1 a (nI u) la s z0 g70 i)) 71 (fO (D.1 14) (D.1 15) D.2.1 a (nI u) la s z0 o0 i)) w)), ((e 14), .inl (0, 800, .inl nw)), ((e 64), .inl (0, 64, .inl (((fS (D.1 14) (D.1 15) D.2.1 a (nI u) la s z0 i).1).1))), ((e 65), .inl (0, 64, .inl (((fS (D.1 14) (D.1 15) D.2.1 a (nI u) la s z0 i).1).2.2))), ((e 66), .inl (0, 64, .inl (((fS (D.1 14) (D.1 15) D.2.1 a (nI u) la s z0 i).1).2.1))), ((e 67), .inl (0, 64, .inl he)), ((e 68), .inl (0, 3904, .inl fw)), ((e 69), .inl (0, 3904, .inl bw))] := by
  intro m
  induction m with
  | zero =>
    intro i fw bw he hi hW
    refine zs_iload dX13_fires_19 rfl ?_
    refine zs_iload_n dX13_fires_21 rfl ?_
    refine zs_icmp_ge (tgt := 153) dX13_fires_22 (by decide) (fun c_1 => ?_) (fun c_1 => (c_1 (by rw [show i = M by omega]; exact Int32.le_refl _) : False).elim)
    rw [show i = M by omega]
    refine zs_lv [] rfl ?_
    exact hk _ _ _
  | succ m ih =>
    intro i fw bw he hi hW
    have h64 : D.1 14 * D.1 15 ≤ 64 := Nat.mul_le_mul hC hRo
    have hui : u * i ≤ u * 60 := Nat.mul_le_mul_left u (by omega)
    have hui2 : u * i + u ≤ u * 60 := by
      have := Nat.mul_le_mul_left u (show i + 1 ≤ 60 by omega)
      rw [Nat.mul_succ] at this
      exact this
    refine zs_iload dX13_fires_19 rfl ?_
    refine zs_iload_n dX13_fires_21 rfl ?_
    refine zs_icmp_ge (tgt := 153) dX13_fires_22 (by decide) (fun c_1 => (nI_ge (show i < M by omega) (by omega) c_1 : False).elim) (fun c_1 => ?_)
    refine zs_iconst (v := nI 0) dX13_fires_25 (by decide) ?_
    refine zs_istore (lv' := [(6, .int (nI 0)), (0, .ref mo), (1, .int (nI M)), (2, .int (nI u)), (3, .int a), (4, .int (nI la)), (5, .int (nI i))]) dX13_fires_26 (Nat.le_of_ble_eq_true rfl) rfl ?_
    refine zs_eq (K' := [(mo, .inr (11, fMo e (upd (upd g 70 (fL (D.1 14) (D.1 15) D.2.1 a (nI u) la s z0 g70 i)) 71 (fO (D.1 14) (D.1 15) D.2.1 a (nI u) la s z0 o0 i)) w)), ((e 14), .inl (0, 800, .inl nw)), ((e 64), .inl (0, 64, .inl (((fS (D.1 14) (D.1 15) D.2.1 a (nI u) la s z0 i).1).1))), ((e 65), .inl (0, 64, .inl (((fS (D.1 14) (D.1 15) D.2.1 a (nI u) la s z0 i).1).2.2))), ((e 66), .inl (0, 64, .inl (((fS (D.1 14) (D.1 15) D.2.1 a (nI u) la s z0 i).1).2.1))), ((e 67), .inl (0, 64, .inl he)), ((e 68), .inl (0, 3904, .inl (sOv (64 * i) (((fS (D.1 14) (D.1 15) D.2.1 a (nI u) la s z0 i).1).1) fw 0))), ((e 69), .inl (0, 3904, .inl (sOv (64 * i) (((fS (D.1 14) (D.1 15) D.2.1 a (nI u) la s z0 i).1).2.2) bw 0)))]) (by rw [sOv_0, sOv_0]) ?_
    refine zs_lv [1, 2, 3, 4, 5, 6, 0] rfl ?_
    refine lp_mfw mo e (upd (upd g 70 (fL (D.1 14) (D.1 15) D.2.1 a (nI u) la s z0 g70 i)) 71 (fO (D.1 14) (D.1 15) D.2.1 a (nI u) la s z0 o0 i)) w nw D (((fS (D.1 14) (D.1 15) D.2.1 a (nI u) la s z0 i).1).1) (((fS (D.1 14) (D.1 15) D.2.1 a (nI u) la s z0 i).1).2.2) (((fS (D.1 14) (D.1 15) D.2.1 a (nI u) la s z0 i).1).2.1) he fw bw i M u la a (by omega) hR hC hRo (by omega) ?_ (D.1 14 * D.1 15) 0 (Nat.zero_add _)
    have hW1 : wH (D.1 14 * D.1 15) (fun t => (fS (D.1 14) (D.1 15) D.2.1 a (nI u) la s z0 t).1) (sOv (64 * i) (((fS (D.1 14) (D.1 15) D.2.1 a (nI u) la s z0 i).1).1) fw (D.1 14 * D.1 15)) (sOv (64 * i) (((fS (D.1 14) (D.1 15) D.2.1 a (nI u) la s z0 i).1).2.2) bw (D.1 14 * D.1 15)) (i + 1) := wH_s hW h64
    refine zs_iload dX13_fires_83 rfl ?_
    refine zs_iload dX13_fires_85 rfl ?_
    refine zs_icmp_ge (tgt := 94) dX13_fires_87 (by decide) (fun c_2 => ?_) (fun c_2 => ?_)
    · have c_2 : la ≤ i := by have hc := c_2; rw [nI_le' (by omega) (by omega)] at hc; exact hc
      refine zs_iload dX13_fires_94 rfl ?_
      refine zs_iload dX13_fires_96 rfl ?_
      refine zs_isub dX13_fires_98 ?_
      refine zs_as (y := nI (i - la)) (nI_sub (by omega)) ?_
      refine zs_istore (lv' := [(6, .int (nI (i - la))), (0, .ref mo), (1, .int (nI M)), (2, .int (nI u)), (3, .int a), (4, .int (nI la)), (5, .int (nI i))]) dX13_fires_99 (Nat.le_of_ble_eq_true rfl) rfl ?_
      refine zs_aload_n dX13_fires_101 rfl rfl ?_
      refine zs_aload_n dX13_fires_102 rfl rfl ?_
      refine zs_iload_n dX13_fires_103 rfl ?_
      refine zs_aload_n dX13_fires_104 rfl rfl ?_
      refine zs_get 0 dX13_fires_105 zf_RX13_117 rfl (v := .ref (e 68)) rfl ?_
      refine zs_aload_n dX13_fires_108 rfl rfl ?_
      refine zs_get 0 dX13_fires_109 zf_RX13_120 rfl (v := .ref (e 69)) rfl ?_
      refine zs_bipush (v := nI 64) dX13_fires_112 (by decide) ?_
      refine zs_iload dX13_fires_114 rfl ?_
      refine zs_imul dX13_fires_116 ?_
      refine zs_as (y := nI (64 * (i - la))) (nI_mul _ _) ?_
      have hag : zAgF (D.1 14 * D.1 15) ((fun j => (sOv (64 * i) (((fS (D.1 14) (D.1 15) D.2.1 a (nI u) la s z0 i).1).1) fw (D.1 14 * D.1 15)) ((64 * (i - la)) + j)), ((fS (D.1 14) (D.1 15) D.2.1 a (nI u) la s z0 (i - la)).1).2.1, (fun j => (sOv (64 * i) (((fS (D.1 14) (D.1 15) D.2.1 a (nI u) la s z0 i).1).2.2) bw (D.1 14 * D.1 15)) ((64 * (i - la)) + j))) ((fS (D.1 14) (D.1 15) D.2.1 a (nI u) la s z0 (i - la)).1) := ⟨fun j hj => (hW1 (i - la) (by omega) j hj).1, fun _ _ => rfl, fun j hj => (hW1 (i - la) (by omega) j hj).2⟩
      have hKs := fS_K (u := u) (wi := D.2.1) (late := la) (se0 := z0) h64 ha hs (i - la)
      have hbb : fBk (D.1 14 * D.1 15) (fun j => (sOv (64 * i) (((fS (D.1 14) (D.1 15) D.2.1 a (nI u) la s z0 i).1).1) fw (D.1 14 * D.1 15)) ((64 * (i - la)) + j)) (fun j => (sOv (64 * i) (((fS (D.1 14) (D.1 15) D.2.1 a (nI u) la s z0 i).1).2.2) bw (D.1 14 * D.1 15)) ((64 * (i - la)) + j)) := fun j hj => by
        have h1 := hKs.1 j hj
        rw [← hag.1 j hj, ← hag.2.2 j hj] at h1
        exact h1
      refine zs_callV (M := mX13_aimed) (As := [.int a, .ref (e 68), .ref (e 69), .int (nI (64 * (i - la)))]) (st := [.ref mo]) (Kc := [(mo, .inr (11, fMo e (upd (upd g 70 (fL (D.1 14) (D.1 15) D.2.1 a (nI u) la s z0 g70 i)) 71 (fO (D.1 14) (D.1 15) D.2.1 a (nI u) la s z0 o0 i)) w)), ((e 14), .inl (0, 800, .inl nw)), ((e 68), .inl (0, 3904, .inl (sOv (64 * i) (((fS (D.1 14) (D.1 15) D.2.1 a (nI u) la s z0 i).1).1) fw (D.1 14 * D.1 15)))), ((e 69), .inl (0, 3904, .inl (sOv (64 * i) (((fS (D.1 14) (D.1 15) D.2.1 a (nI u) la s z0 i).1).2.2) bw (D.1 14 * D.1 15))))]) (Kr := [((e 64), .inl (0, 64, .inl (((fS (D.1 14) (D.1 15) D.2.1 a (nI u) la s z0 i).1).1))), ((e 65), .inl (0, 64, .inl (((fS (D.1 14) (D.1 15) D.2.1 a (nI u) la s z0 i).1).2.2))), ((e 66), .inl (0, 64, .inl (((fS (D.1 14) (D.1 15) D.2.1 a (nI u) la s z0 i).1).2.1))), ((e 67), .inl (0, 64, .inl he))]) [0, 1, 6, 7] [2, 3, 4, 5] 0 dX13_fires_117 zl_RX13_442 kX13_aimed rfl rfl rfl rfl rfl (by decide) rfl rfl (show dd - 1 + 1 ≤ dd by omega) (Nat.zero_le _) (Nat.zero_le _) (Nat.le_of_ble_eq_true rfl) (s_mAimed l (dd - 1) mo e (upd (upd g 70 (fL (D.1 14) (D.1 15) D.2.1 a (nI u) la s z0 g70 i)) 71 (fO (D.1 14) (D.1 15) D.2.1 a (nI u) la s z0 o0 i)) w nw D (e 68) (e 69) 3904 (64 * (i - la)) (sOv (64 * i) (((fS (D.1 14) (D.1 15) D.2.1 a (nI u) la s z0 i).1).1) fw (D.1 14 * D.1 15)) (sOv (64 * i) (((fS (D.1 14) (D.1 15) D.2.1 a (nI u) la s z0 i).1).2.2) bw (D.1 14 * D.1 15)) a (by omega) hR hC hRo (by omega) (by omega) hbb ha.1) (fun r K1 hr => ?_)
      obtain ⟨rfl, rfl⟩ := hr
      refine zs_K (K' := [(mo, .inr (11, fMo e (upd (upd g 70 (fL (D.1 14) (D.1 15) D.2.1 a (nI u) la s z0 g70 i)) 71 (fO (D.1 14) (D.1 15) D.2.1 a (nI u) la s z0 o0 i)) w)), ((e 14), .inl (0, 800, .inl nw)), ((e 64), .inl (0, 64, .inl (((fS (D.1 14) (D.1 15) D.2.1 a (nI u) la s z0 i).1).1))), ((e 65), .inl (0, 64, .inl (((fS (D.1 14) (D.1 15) D.2.1 a (nI u) la s z0 i).1).2.2))), ((e 66), .inl (0, 64, .inl (((fS (D.1 14) (D.1 15) D.2.1 a (nI u) la s z0 i).1).2.1))), ((e 67), .inl (0, 64, .inl he)), ((e 68), .inl (0, 3904, .inl (sOv (64 * i) (((fS (D.1 14) (D.1 15) D.2.1 a (nI u) la s z0 i).1).1) fw (D.1 14 * D.1 15)))), ((e 69), .inl (0, 3904, .inl (sOv (64 * i) (((fS (D.1 14) (D.1 15) D.2.1 a (nI u) la s z0 i).1).2.2) bw (D.1 14 * D.1 15))))]) [4, 5, 0, 1, 2, 3, 6, 7] rfl (by decide) ?_
      refine zs_as (y := (fC (D.1 14) (D.1 15) D.2.1 a (nI u) la s z0 i)) (((mAim_ag hag).trans (fC_e i).symm)) ?_
      refine zs_iload_n dX13_fires_120 rfl ?_
      refine zs_callV (M := mX13_minute) (As := [.int (fC (D.1 14) (D.1 15) D.2.1 a (nI u) la s z0 i), .int (nI u)]) (st := []) (Kc := [(mo, .inr (11, fMo e (upd (upd g 70 (fL (D.1 14) (D.1 15) D.2.1 a (nI u) la s z0 g70 i)) 71 (fO (D.1 14) (D.1 15) D.2.1 a (nI u) la s z0 o0 i)) w)), ((e 14), .inl (0, 800, .inl nw)), ((e 64), .inl (0, 64, .inl (((fS (D.1 14) (D.1 15) D.2.1 a (nI u) la s z0 i).1).1))), ((e 65), .inl (0, 64, .inl (((fS (D.1 14) (D.1 15) D.2.1 a (nI u) la s z0 i).1).2.2))), ((e 66), .inl (0, 64, .inl (((fS (D.1 14) (D.1 15) D.2.1 a (nI u) la s z0 i).1).2.1))), ((e 67), .inl (0, 64, .inl he))]) (Kr := [((e 68), .inl (0, 3904, .inl (sOv (64 * i) (((fS (D.1 14) (D.1 15) D.2.1 a (nI u) la s z0 i).1).1) fw (D.1 14 * D.1 15)))), ((e 69), .inl (0, 3904, .inl (sOv (64 * i) (((fS (D.1 14) (D.1 15) D.2.1 a (nI u) la s z0 i).1).2.2) bw (D.1 14 * D.1 15))))]) [0, 1, 2, 3, 4, 5] [6, 7] 0 dX13_fires_121 zl_RX13_445 kX13_minute rfl rfl rfl rfl rfl (by decide) rfl rfl (show dd - 1 + 1 ≤ dd by omega) (Nat.zero_le _) (Nat.zero_le _) (Nat.le_of_ble_eq_true rfl) (s_mMinute l (dd - 1) mo e (upd (upd g 70 (fL (D.1 14) (D.1 15) D.2.1 a (nI u) la s z0 g70 i)) 71 (fO (D.1 14) (D.1 15) D.2.1 a (nI u) la s z0 o0 i)) w nw D ((fS (D.1 14) (D.1 15) D.2.1 a (nI u) la s z0 i).1) he (V + u * i) u (fC (D.1 14) (D.1 15) D.2.1 a (nI u) la s z0 i) (by omega) hR hC hRo (fS_K h64 ha hs i) (by omega) (by rw [fC_e]; exact pAim_c ha.1 ha.2)) (fun r K1 hr => ?_)
      obtain ⟨rfl, he2, rfl⟩ := hr
      rw [← fS_n, show upd (upd (upd g 70 (fL (D.1 14) (D.1 15) D.2.1 a (nI u) la s z0 g70 i)) 71 (fO (D.1 14) (D.1 15) D.2.1 a (nI u) la s z0 o0 i)) 70 ((upd (upd g 70 (fL (D.1 14) (D.1 15) D.2.1 a (nI u) la s z0 g70 i)) 71 (fO (D.1 14) (D.1 15) D.2.1 a (nI u) la s z0 o0 i)) 70 + (mLs (D.1 14) (D.1 15) ((fS (D.1 14) (D.1 15) D.2.1 a (nI u) la s z0 i).1) (fC (D.1 14) (D.1 15) D.2.1 a (nI u) la s z0 i) (nI u))) = upd (upd g 70 (fL (D.1 14) (D.1 15) D.2.1 a (nI u) la s z0 g70 (i + 1))) 71 (fO (D.1 14) (D.1 15) D.2.1 a (nI u) la s z0 o0 i) from up71]
      refine zs_K (K' := [(mo, .inr (11, fMo e (upd (upd g 70 (fL (D.1 14) (D.1 15) D.2.1 a (nI u) la s z0 g70 (i + 1))) 71 (fO (D.1 14) (D.1 15) D.2.1 a (nI u) la s z0 o0 i)) w)), ((e 14), .inl (0, 800, .inl nw)), ((e 64), .inl (0, 64, .inl (((fS (D.1 14) (D.1 15) D.2.1 a (nI u) la s z0 (i + 1)).1).1))), ((e 65), .inl (0, 64, .inl (((fS (D.1 14) (D.1 15) D.2.1 a (nI u) la s z0 (i + 1)).1).2.2))), ((e 66), .inl (0, 64, .inl (((fS (D.1 14) (D.1 15) D.2.1 a (nI u) la s z0 (i + 1)).1).2.1))), ((e 67), .inl (0, 64, .inl he2)), ((e 68), .inl (0, 3904, .inl (sOv (64 * i) (((fS (D.1 14) (D.1 15) D.2.1 a (nI u) la s z0 i).1).1) fw (D.1 14 * D.1 15)))), ((e 69), .inl (0, 3904, .inl (sOv (64 * i) (((fS (D.1 14) (D.1 15) D.2.1 a (nI u) la s z0 i).1).2.2) bw (D.1 14 * D.1 15))))]) [2, 3, 4, 5, 6, 7, 0, 1] rfl (by decide) ?_
      refine zs_aload_n dX13_fires_124 rfl rfl ?_
      refine zs_get 0 dX13_fires_125 zf_RX13_439 rfl (v := .int (fO (D.1 14) (D.1 15) D.2.1 a (nI u) la s z0 o0 i)) rfl ?_
      refine zs_iconst (v := (-1)) dX13_fires_128 (by decide) ?_
      refine zs_icmp_ne (tgt := 147) dX13_fires_129 (by decide) (fun c_3 => ?_) (fun c_3 => ?_)
      · have hout : ¬ (fO (D.1 14) (D.1 15) D.2.1 a (nI u) la s z0 o0 i) = -1 := c_3
        refine zs_iinc (v := (nI (i + 1))) (lv' := [(5, .int (nI (i + 1))), (6, .int (nI (i - la))), (0, .ref mo), (1, .int (nI M)), (2, .int (nI u)), (3, .int a), (4, .int (nI la))]) dX13_fires_147 rfl (nI_add _ 1) (Nat.le_of_ble_eq_true rfl) rfl ?_
        refine zs_goto (tgt := 19) dX13_fires_150 (by decide) ?_
        refine zs_lv [2, 3, 4, 5, 6, 0] rfl ?_
        refine zs_eq (K' := [(mo, .inr (11, fMo e (upd (upd g 70 (fL (D.1 14) (D.1 15) D.2.1 a (nI u) la s z0 g70 (i + 1))) 71 (fO (D.1 14) (D.1 15) D.2.1 a (nI u) la s z0 o0 (i + 1))) w)), ((e 14), .inl (0, 800, .inl nw)), ((e 64), .inl (0, 64, .inl (((fS (D.1 14) (D.1 15) D.2.1 a (nI u) la s z0 (i + 1)).1).1))), ((e 65), .inl (0, 64, .inl (((fS (D.1 14) (D.1 15) D.2.1 a (nI u) la s z0 (i + 1)).1).2.2))), ((e 66), .inl (0, 64, .inl (((fS (D.1 14) (D.1 15) D.2.1 a (nI u) la s z0 (i + 1)).1).2.1))), ((e 67), .inl (0, 64, .inl he2)), ((e 68), .inl (0, 3904, .inl (sOv (64 * i) (((fS (D.1 14) (D.1 15) D.2.1 a (nI u) la s z0 i).1).1) fw (D.1 14 * D.1 15)))), ((e 69), .inl (0, 3904, .inl (sOv (64 * i) (((fS (D.1 14) (D.1 15) D.2.1 a (nI u) la s z0 i).1).2.2) bw (D.1 14 * D.1 15))))]) (by rw [(show (fO (D.1 14) (D.1 15) D.2.1 a (nI u) la s z0 o0 i) = (fO (D.1 14) (D.1 15) D.2.1 a (nI u) la s z0 o0 (i + 1)) from fO_k hout)]) ?_
        exact ih (i + 1) (sOv (64 * i) (((fS (D.1 14) (D.1 15) D.2.1 a (nI u) la s z0 i).1).1) fw (D.1 14 * D.1 15)) (sOv (64 * i) (((fS (D.1 14) (D.1 15) D.2.1 a (nI u) la s z0 i).1).2.2) bw (D.1 14 * D.1 15)) he2 (by omega) hW1
      · have hno : (fO (D.1 14) (D.1 15) D.2.1 a (nI u) la s z0 o0 i) = -1 := c_3
        refine zs_aload_n dX13_fires_132 rfl rfl ?_
        refine zs_callV (M := mX13_burning) (As := []) (st := []) (Kc := [(mo, .inr (11, fMo e (upd (upd g 70 (fL (D.1 14) (D.1 15) D.2.1 a (nI u) la s z0 g70 (i + 1))) 71 (fO (D.1 14) (D.1 15) D.2.1 a (nI u) la s z0 o0 i)) w)), ((e 14), .inl (0, 800, .inl nw)), ((e 65), .inl (0, 64, .inl (((fS (D.1 14) (D.1 15) D.2.1 a (nI u) la s z0 (i + 1)).1).2.2)))]) (Kr := [((e 64), .inl (0, 64, .inl (((fS (D.1 14) (D.1 15) D.2.1 a (nI u) la s z0 (i + 1)).1).1))), ((e 66), .inl (0, 64, .inl (((fS (D.1 14) (D.1 15) D.2.1 a (nI u) la s z0 (i + 1)).1).2.1))), ((e 67), .inl (0, 64, .inl he2)), ((e 68), .inl (0, 3904, .inl (sOv (64 * i) (((fS (D.1 14) (D.1 15) D.2.1 a (nI u) la s z0 i).1).1) fw (D.1 14 * D.1 15)))), ((e 69), .inl (0, 3904, .inl (sOv (64 * i) (((fS (D.1 14) (D.1 15) D.2.1 a (nI u) la s z0 i).1).2.2) bw (D.1 14 * D.1 15))))]) [0, 1, 3] [2, 4, 5, 6, 7] 0 dX13_fires_133 zl_RX13_436 kX13_burning rfl rfl rfl rfl rfl (by decide) rfl rfl (show dd - 1 + 1 ≤ dd by omega) (Nat.zero_le _) (Nat.zero_le _) (Nat.le_of_ble_eq_true rfl) (s_mBurning l (dd - 1) mo e (upd (upd g 70 (fL (D.1 14) (D.1 15) D.2.1 a (nI u) la s z0 g70 (i + 1))) 71 (fO (D.1 14) (D.1 15) D.2.1 a (nI u) la s z0 o0 i)) w nw D (((fS (D.1 14) (D.1 15) D.2.1 a (nI u) la s z0 (i + 1)).1).2.2) (by omega) hR hC hRo (fun j hj => (fS_K (u := u) (wi := D.2.1) (late := la) (se0 := z0) h64 ha hs (i + 1)).1 j hj |>.1)) (fun r K1 hr => ?_)
        obtain ⟨rfl, rfl⟩ := hr
        refine zs_K (K' := [(mo, .inr (11, fMo e (upd (upd g 70 (fL (D.1 14) (D.1 15) D.2.1 a (nI u) la s z0 g70 (i + 1))) 71 (fO (D.1 14) (D.1 15) D.2.1 a (nI u) la s z0 o0 i)) w)), ((e 14), .inl (0, 800, .inl nw)), ((e 64), .inl (0, 64, .inl (((fS (D.1 14) (D.1 15) D.2.1 a (nI u) la s z0 (i + 1)).1).1))), ((e 65), .inl (0, 64, .inl (((fS (D.1 14) (D.1 15) D.2.1 a (nI u) la s z0 (i + 1)).1).2.2))), ((e 66), .inl (0, 64, .inl (((fS (D.1 14) (D.1 15) D.2.1 a (nI u) la s z0 (i + 1)).1).2.1))), ((e 67), .inl (0, 64, .inl he2)), ((e 68), .inl (0, 3904, .inl (sOv (64 * i) (((fS (D.1 14) (D.1 15) D.2.1 a (nI u) la s z0 i).1).1) fw (D.1 14 * D.1 15)))), ((e 69), .inl (0, 3904, .inl (sOv (64 * i) (((fS (D.1 14) (D.1 15) D.2.1 a (nI u) la s z0 i).1).2.2) bw (D.1 14 * D.1 15))))]) [5, 6, 0, 7, 1, 2, 3, 4] rfl (by decide) ?_
        refine zs_if_ne (tgt := 147) dX13_fires_136 (by decide) (fun c_4 => ?_) (fun c_4 => ?_)
        · have hbn : ¬ mBn (D.1 14) (D.1 15) D.2.1 ((fS (D.1 14) (D.1 15) D.2.1 a (nI u) la s z0 i).1) (fC (D.1 14) (D.1 15) D.2.1 a (nI u) la s z0 i) (nI u) = 0 := by rw [← mBn_e]; exact c_4
          refine zs_iinc (v := (nI (i + 1))) (lv' := [(5, .int (nI (i + 1))), (6, .int (nI (i - la))), (0, .ref mo), (1, .int (nI M)), (2, .int (nI u)), (3, .int a), (4, .int (nI la))]) dX13_fires_147 rfl (nI_add _ 1) (Nat.le_of_ble_eq_true rfl) rfl ?_
          refine zs_goto (tgt := 19) dX13_fires_150 (by decide) ?_
          refine zs_lv [2, 3, 4, 5, 6, 0] rfl ?_
          refine zs_eq (K' := [(mo, .inr (11, fMo e (upd (upd g 70 (fL (D.1 14) (D.1 15) D.2.1 a (nI u) la s z0 g70 (i + 1))) 71 (fO (D.1 14) (D.1 15) D.2.1 a (nI u) la s z0 o0 (i + 1))) w)), ((e 14), .inl (0, 800, .inl nw)), ((e 64), .inl (0, 64, .inl (((fS (D.1 14) (D.1 15) D.2.1 a (nI u) la s z0 (i + 1)).1).1))), ((e 65), .inl (0, 64, .inl (((fS (D.1 14) (D.1 15) D.2.1 a (nI u) la s z0 (i + 1)).1).2.2))), ((e 66), .inl (0, 64, .inl (((fS (D.1 14) (D.1 15) D.2.1 a (nI u) la s z0 (i + 1)).1).2.1))), ((e 67), .inl (0, 64, .inl he2)), ((e 68), .inl (0, 3904, .inl (sOv (64 * i) (((fS (D.1 14) (D.1 15) D.2.1 a (nI u) la s z0 i).1).1) fw (D.1 14 * D.1 15)))), ((e 69), .inl (0, 3904, .inl (sOv (64 * i) (((fS (D.1 14) (D.1 15) D.2.1 a (nI u) la s z0 i).1).2.2) bw (D.1 14 * D.1 15))))]) (by rw [(show (fO (D.1 14) (D.1 15) D.2.1 a (nI u) la s z0 o0 i) = (fO (D.1 14) (D.1 15) D.2.1 a (nI u) la s z0 o0 (i + 1)) from fO_n hbn)]) ?_
          exact ih (i + 1) (sOv (64 * i) (((fS (D.1 14) (D.1 15) D.2.1 a (nI u) la s z0 i).1).1) fw (D.1 14 * D.1 15)) (sOv (64 * i) (((fS (D.1 14) (D.1 15) D.2.1 a (nI u) la s z0 i).1).2.2) bw (D.1 14 * D.1 15)) he2 (by omega) hW1
        · have hbz : mBn (D.1 14) (D.1 15) D.2.1 ((fS (D.1 14) (D.1 15) D.2.1 a (nI u) la s z0 i).1) (fC (D.1 14) (D.1 15) D.2.1 a (nI u) la s z0 i) (nI u) = 0 := by rw [← mBn_e]; exact c_4
          refine zs_aload_n dX13_fires_139 rfl rfl ?_
          refine zs_iload dX13_fires_140 rfl ?_
          refine zs_iconst (v := nI 1) dX13_fires_142 (by decide) ?_
          refine zs_iadd dX13_fires_143 ?_
          refine zs_as (y := nI (i + 1)) (nI_add _ _) ?_
          refine zs_put 0 dX13_fires_144 zf_RX13_439 rfl (Nat.le_of_ble_eq_true rfl) (zPv_i _) ?_
          show zS _ _ _ _ _ _ [(mo, .inr (11, fMo e (upd (upd g 70 (fL (D.1 14) (D.1 15) D.2.1 a (nI u) la s z0 g70 (i + 1))) 71 (nI (i + 1))) w)), ((e 14), .inl (0, 800, .inl nw)), ((e 64), .inl (0, 64, .inl (((fS (D.1 14) (D.1 15) D.2.1 a (nI u) la s z0 (i + 1)).1).1))), ((e 65), .inl (0, 64, .inl (((fS (D.1 14) (D.1 15) D.2.1 a (nI u) la s z0 (i + 1)).1).2.2))), ((e 66), .inl (0, 64, .inl (((fS (D.1 14) (D.1 15) D.2.1 a (nI u) la s z0 (i + 1)).1).2.1))), ((e 67), .inl (0, 64, .inl he2)), ((e 68), .inl (0, 3904, .inl (sOv (64 * i) (((fS (D.1 14) (D.1 15) D.2.1 a (nI u) la s z0 i).1).1) fw (D.1 14 * D.1 15)))), ((e 69), .inl (0, 3904, .inl (sOv (64 * i) (((fS (D.1 14) (D.1 15) D.2.1 a (nI u) la s z0 i).1).2.2) bw (D.1 14 * D.1 15))))]
          refine zs_iinc (v := (nI (i + 1))) (lv' := [(5, .int (nI (i + 1))), (6, .int (nI (i - la))), (0, .ref mo), (1, .int (nI M)), (2, .int (nI u)), (3, .int a), (4, .int (nI la))]) dX13_fires_147 rfl (nI_add _ 1) (Nat.le_of_ble_eq_true rfl) rfl ?_
          refine zs_goto (tgt := 19) dX13_fires_150 (by decide) ?_
          refine zs_lv [2, 3, 4, 5, 6, 0] rfl ?_
          refine zs_eq (K' := [(mo, .inr (11, fMo e (upd (upd g 70 (fL (D.1 14) (D.1 15) D.2.1 a (nI u) la s z0 g70 (i + 1))) 71 (fO (D.1 14) (D.1 15) D.2.1 a (nI u) la s z0 o0 (i + 1))) w)), ((e 14), .inl (0, 800, .inl nw)), ((e 64), .inl (0, 64, .inl (((fS (D.1 14) (D.1 15) D.2.1 a (nI u) la s z0 (i + 1)).1).1))), ((e 65), .inl (0, 64, .inl (((fS (D.1 14) (D.1 15) D.2.1 a (nI u) la s z0 (i + 1)).1).2.2))), ((e 66), .inl (0, 64, .inl (((fS (D.1 14) (D.1 15) D.2.1 a (nI u) la s z0 (i + 1)).1).2.1))), ((e 67), .inl (0, 64, .inl he2)), ((e 68), .inl (0, 3904, .inl (sOv (64 * i) (((fS (D.1 14) (D.1 15) D.2.1 a (nI u) la s z0 i).1).1) fw (D.1 14 * D.1 15)))), ((e 69), .inl (0, 3904, .inl (sOv (64 * i) (((fS (D.1 14) (D.1 15) D.2.1 a (nI u) la s z0 i).1).2.2) bw (D.1 14 * D.1 15))))]) (by rw [(show nI (i + 1) = (fO (D.1 14) (D.1 15) D.2.1 a (nI u) la s z0 o0 (i + 1)) from fO_y hbz hno)]) ?_
          exact ih (i + 1) (sOv (64 * i) (((fS (D.1 14) (D.1 15) D.2.1 a (nI u) la s z0 i).1).1) fw (D.1 14 * D.1 15)) (sOv (64 * i) (((fS (D.1 14) (D.1 15) D.2.1 a (nI u) la s z0 i).1).2.2) bw (D.1 14 * D.1 15)) he2 (by omega) hW1
    · have c_2 : ¬ (la ≤ i) := by have hc := c_2; rw [nI_le' (by omega) (by omega)] at hc; exact hc
      refine zs_iconst (v := nI 0) dX13_fires_90 (by decide) ?_
      refine zs_goto (tgt := 99) dX13_fires_91 (by decide) ?_
      refine zs_as (y := nI (i - la)) (congrArg nI (by omega)) ?_
      refine zs_istore (lv' := [(6, .int (nI (i - la))), (0, .ref mo), (1, .int (nI M)), (2, .int (nI u)), (3, .int a), (4, .int (nI la)), (5, .int (nI i))]) dX13_fires_99 (Nat.le_of_ble_eq_true rfl) rfl ?_
      refine zs_aload_n dX13_fires_101 rfl rfl ?_
      refine zs_aload_n dX13_fires_102 rfl rfl ?_
      refine zs_iload_n dX13_fires_103 rfl ?_
      refine zs_aload_n dX13_fires_104 rfl rfl ?_
      refine zs_get 0 dX13_fires_105 zf_RX13_117 rfl (v := .ref (e 68)) rfl ?_
      refine zs_aload_n dX13_fires_108 rfl rfl ?_
      refine zs_get 0 dX13_fires_109 zf_RX13_120 rfl (v := .ref (e 69)) rfl ?_
      refine zs_bipush (v := nI 64) dX13_fires_112 (by decide) ?_
      refine zs_iload dX13_fires_114 rfl ?_
      refine zs_imul dX13_fires_116 ?_
      refine zs_as (y := nI (64 * (i - la))) (nI_mul _ _) ?_
      have hag : zAgF (D.1 14 * D.1 15) ((fun j => (sOv (64 * i) (((fS (D.1 14) (D.1 15) D.2.1 a (nI u) la s z0 i).1).1) fw (D.1 14 * D.1 15)) ((64 * (i - la)) + j)), ((fS (D.1 14) (D.1 15) D.2.1 a (nI u) la s z0 (i - la)).1).2.1, (fun j => (sOv (64 * i) (((fS (D.1 14) (D.1 15) D.2.1 a (nI u) la s z0 i).1).2.2) bw (D.1 14 * D.1 15)) ((64 * (i - la)) + j))) ((fS (D.1 14) (D.1 15) D.2.1 a (nI u) la s z0 (i - la)).1) := ⟨fun j hj => (hW1 (i - la) (by omega) j hj).1, fun _ _ => rfl, fun j hj => (hW1 (i - la) (by omega) j hj).2⟩
      have hKs := fS_K (u := u) (wi := D.2.1) (late := la) (se0 := z0) h64 ha hs (i - la)
      have hbb : fBk (D.1 14 * D.1 15) (fun j => (sOv (64 * i) (((fS (D.1 14) (D.1 15) D.2.1 a (nI u) la s z0 i).1).1) fw (D.1 14 * D.1 15)) ((64 * (i - la)) + j)) (fun j => (sOv (64 * i) (((fS (D.1 14) (D.1 15) D.2.1 a (nI u) la s z0 i).1).2.2) bw (D.1 14 * D.1 15)) ((64 * (i - la)) + j)) := fun j hj => by
        have h1 := hKs.1 j hj
        rw [← hag.1 j hj, ← hag.2.2 j hj] at h1
        exact h1
      refine zs_callV (M := mX13_aimed) (As := [.int a, .ref (e 68), .ref (e 69), .int (nI (64 * (i - la)))]) (st := [.ref mo]) (Kc := [(mo, .inr (11, fMo e (upd (upd g 70 (fL (D.1 14) (D.1 15) D.2.1 a (nI u) la s z0 g70 i)) 71 (fO (D.1 14) (D.1 15) D.2.1 a (nI u) la s z0 o0 i)) w)), ((e 14), .inl (0, 800, .inl nw)), ((e 68), .inl (0, 3904, .inl (sOv (64 * i) (((fS (D.1 14) (D.1 15) D.2.1 a (nI u) la s z0 i).1).1) fw (D.1 14 * D.1 15)))), ((e 69), .inl (0, 3904, .inl (sOv (64 * i) (((fS (D.1 14) (D.1 15) D.2.1 a (nI u) la s z0 i).1).2.2) bw (D.1 14 * D.1 15))))]) (Kr := [((e 64), .inl (0, 64, .inl (((fS (D.1 14) (D.1 15) D.2.1 a (nI u) la s z0 i).1).1))), ((e 65), .inl (0, 64, .inl (((fS (D.1 14) (D.1 15) D.2.1 a (nI u) la s z0 i).1).2.2))), ((e 66), .inl (0, 64, .inl (((fS (D.1 14) (D.1 15) D.2.1 a (nI u) la s z0 i).1).2.1))), ((e 67), .inl (0, 64, .inl he))]) [0, 1, 6, 7] [2, 3, 4, 5] 0 dX13_fires_117 zl_RX13_442 kX13_aimed rfl rfl rfl rfl rfl (by decide) rfl rfl (show dd - 1 + 1 ≤ dd by omega) (Nat.zero_le _) (Nat.zero_le _) (Nat.le_of_ble_eq_true rfl) (s_mAimed l (dd - 1) mo e (upd (upd g 70 (fL (D.1 14) (D.1 15) D.2.1 a (nI u) la s z0 g70 i)) 71 (fO (D.1 14) (D.1 15) D.2.1 a (nI u) la s z0 o0 i)) w nw D (e 68) (e 69) 3904 (64 * (i - la)) (sOv (64 * i) (((fS (D.1 14) (D.1 15) D.2.1 a (nI u) la s z0 i).1).1) fw (D.1 14 * D.1 15)) (sOv (64 * i) (((fS (D.1 14) (D.1 15) D.2.1 a (nI u) la s z0 i).1).2.2) bw (D.1 14 * D.1 15)) a (by omega) hR hC hRo (by omega) (by omega) hbb ha.1) (fun r K1 hr => ?_)
      obtain ⟨rfl, rfl⟩ := hr
      refine zs_K (K' := [(mo, .inr (11, fMo e (upd (upd g 70 (fL (D.1 14) (D.1 15) D.2.1 a (nI u) la s z0 g70 i)) 71 (fO (D.1 14) (D.1 15) D.2.1 a (nI u) la s z0 o0 i)) w)), ((e 14), .inl (0, 800, .inl nw)), ((e 64), .inl (0, 64, .inl (((fS (D.1 14) (D.1 15) D.2.1 a (nI u) la s z0 i).1).1))), ((e 65), .inl (0, 64, .inl (((fS (D.1 14) (D.1 15) D.2.1 a (nI u) la s z0 i).1).2.2))), ((e 66), .inl (0, 64, .inl (((fS (D.1 14) (D.1 15) D.2.1 a (nI u) la s z0 i).1).2.1))), ((e 67), .inl (0, 64, .inl he)), ((e 68), .inl (0, 3904, .inl (sOv (64 * i) (((fS (D.1 14) (D.1 15) D.2.1 a (nI u) la s z0 i).1).1) fw (D.1 14 * D.1 15)))), ((e 69), .inl (0, 3904, .inl (sOv (64 * i) (((fS (D.1 14) (D.1 15) D.2.1 a (nI u) la s z0 i).1).2.2) bw (D.1 14 * D.1 15))))]) [4, 5, 0, 1, 2, 3, 6, 7] rfl (by decide) ?_
      refine zs_as (y := (fC (D.1 14) (D.1 15) D.2.1 a (nI u) la s z0 i)) (((mAim_ag hag).trans (fC_e i).symm)) ?_
      refine zs_iload_n dX13_fires_120 rfl ?_
      refine zs_callV (M := mX13_minute) (As := [.int (fC (D.1 14) (D.1 15) D.2.1 a (nI u) la s z0 i), .int (nI u)]) (st := []) (Kc := [(mo, .inr (11, fMo e (upd (upd g 70 (fL (D.1 14) (D.1 15) D.2.1 a (nI u) la s z0 g70 i)) 71 (fO (D.1 14) (D.1 15) D.2.1 a (nI u) la s z0 o0 i)) w)), ((e 14), .inl (0, 800, .inl nw)), ((e 64), .inl (0, 64, .inl (((fS (D.1 14) (D.1 15) D.2.1 a (nI u) la s z0 i).1).1))), ((e 65), .inl (0, 64, .inl (((fS (D.1 14) (D.1 15) D.2.1 a (nI u) la s z0 i).1).2.2))), ((e 66), .inl (0, 64, .inl (((fS (D.1 14) (D.1 15) D.2.1 a (nI u) la s z0 i).1).2.1))), ((e 67), .inl (0, 64, .inl he))]) (Kr := [((e 68), .inl (0, 3904, .inl (sOv (64 * i) (((fS (D.1 14) (D.1 15) D.2.1 a (nI u) la s z0 i).1).1) fw (D.1 14 * D.1 15)))), ((e 69), .inl (0, 3904, .inl (sOv (64 * i) (((fS (D.1 14) (D.1 15) D.2.1 a (nI u) la s z0 i).1).2.2) bw (D.1 14 * D.1 15))))]) [0, 1, 2, 3, 4, 5] [6, 7] 0 dX13_fires_121 zl_RX13_445 kX13_minute rfl rfl rfl rfl rfl (by decide) rfl rfl (show dd - 1 + 1 ≤ dd by omega) (Nat.zero_le _) (Nat.zero_le _) (Nat.le_of_ble_eq_true rfl) (s_mMinute l (dd - 1) mo e (upd (upd g 70 (fL (D.1 14) (D.1 15) D.2.1 a (nI u) la s z0 g70 i)) 71 (fO (D.1 14) (D.1 15) D.2.1 a (nI u) la s z0 o0 i)) w nw D ((fS (D.1 14) (D.1 15) D.2.1 a (nI u) la s z0 i).1) he (V + u * i) u (fC (D.1 14) (D.1 15) D.2.1 a (nI u) la s z0 i) (by omega) hR hC hRo (fS_K h64 ha hs i) (by omega) (by rw [fC_e]; exact pAim_c ha.1 ha.2)) (fun r K1 hr => ?_)
      obtain ⟨rfl, he2, rfl⟩ := hr
      rw [← fS_n, show upd (upd (upd g 70 (fL (D.1 14) (D.1 15) D.2.1 a (nI u) la s z0 g70 i)) 71 (fO (D.1 14) (D.1 15) D.2.1 a (nI u) la s z0 o0 i)) 70 ((upd (upd g 70 (fL (D.1 14) (D.1 15) D.2.1 a (nI u) la s z0 g70 i)) 71 (fO (D.1 14) (D.1 15) D.2.1 a (nI u) la s z0 o0 i)) 70 + (mLs (D.1 14) (D.1 15) ((fS (D.1 14) (D.1 15) D.2.1 a (nI u) la s z0 i).1) (fC (D.1 14) (D.1 15) D.2.1 a (nI u) la s z0 i) (nI u))) = upd (upd g 70 (fL (D.1 14) (D.1 15) D.2.1 a (nI u) la s z0 g70 (i + 1))) 71 (fO (D.1 14) (D.1 15) D.2.1 a (nI u) la s z0 o0 i) from up71]
      refine zs_K (K' := [(mo, .inr (11, fMo e (upd (upd g 70 (fL (D.1 14) (D.1 15) D.2.1 a (nI u) la s z0 g70 (i + 1))) 71 (fO (D.1 14) (D.1 15) D.2.1 a (nI u) la s z0 o0 i)) w)), ((e 14), .inl (0, 800, .inl nw)), ((e 64), .inl (0, 64, .inl (((fS (D.1 14) (D.1 15) D.2.1 a (nI u) la s z0 (i + 1)).1).1))), ((e 65), .inl (0, 64, .inl (((fS (D.1 14) (D.1 15) D.2.1 a (nI u) la s z0 (i + 1)).1).2.2))), ((e 66), .inl (0, 64, .inl (((fS (D.1 14) (D.1 15) D.2.1 a (nI u) la s z0 (i + 1)).1).2.1))), ((e 67), .inl (0, 64, .inl he2)), ((e 68), .inl (0, 3904, .inl (sOv (64 * i) (((fS (D.1 14) (D.1 15) D.2.1 a (nI u) la s z0 i).1).1) fw (D.1 14 * D.1 15)))), ((e 69), .inl (0, 3904, .inl (sOv (64 * i) (((fS (D.1 14) (D.1 15) D.2.1 a (nI u) la s z0 i).1).2.2) bw (D.1 14 * D.1 15))))]) [2, 3, 4, 5, 6, 7, 0, 1] rfl (by decide) ?_
      refine zs_aload_n dX13_fires_124 rfl rfl ?_
      refine zs_get 0 dX13_fires_125 zf_RX13_439 rfl (v := .int (fO (D.1 14) (D.1 15) D.2.1 a (nI u) la s z0 o0 i)) rfl ?_
      refine zs_iconst (v := (-1)) dX13_fires_128 (by decide) ?_
      refine zs_icmp_ne (tgt := 147) dX13_fires_129 (by decide) (fun c_5 => ?_) (fun c_5 => ?_)
      · have hout : ¬ (fO (D.1 14) (D.1 15) D.2.1 a (nI u) la s z0 o0 i) = -1 := c_5
        refine zs_iinc (v := (nI (i + 1))) (lv' := [(5, .int (nI (i + 1))), (6, .int (nI (i - la))), (0, .ref mo), (1, .int (nI M)), (2, .int (nI u)), (3, .int a), (4, .int (nI la))]) dX13_fires_147 rfl (nI_add _ 1) (Nat.le_of_ble_eq_true rfl) rfl ?_
        refine zs_goto (tgt := 19) dX13_fires_150 (by decide) ?_
        refine zs_lv [2, 3, 4, 5, 6, 0] rfl ?_
        refine zs_eq (K' := [(mo, .inr (11, fMo e (upd (upd g 70 (fL (D.1 14) (D.1 15) D.2.1 a (nI u) la s z0 g70 (i + 1))) 71 (fO (D.1 14) (D.1 15) D.2.1 a (nI u) la s z0 o0 (i + 1))) w)), ((e 14), .inl (0, 800, .inl nw)), ((e 64), .inl (0, 64, .inl (((fS (D.1 14) (D.1 15) D.2.1 a (nI u) la s z0 (i + 1)).1).1))), ((e 65), .inl (0, 64, .inl (((fS (D.1 14) (D.1 15) D.2.1 a (nI u) la s z0 (i + 1)).1).2.2))), ((e 66), .inl (0, 64, .inl (((fS (D.1 14) (D.1 15) D.2.1 a (nI u) la s z0 (i + 1)).1).2.1))), ((e 67), .inl (0, 64, .inl he2)), ((e 68), .inl (0, 3904, .inl (sOv (64 * i) (((fS (D.1 14) (D.1 15) D.2.1 a (nI u) la s z0 i).1).1) fw (D.1 14 * D.1 15)))), ((e 69), .inl (0, 3904, .inl (sOv (64 * i) (((fS (D.1 14) (D.1 15) D.2.1 a (nI u) la s z0 i).1).2.2) bw (D.1 14 * D.1 15))))]) (by rw [(show (fO (D.1 14) (D.1 15) D.2.1 a (nI u) la s z0 o0 i) = (fO (D.1 14) (D.1 15) D.2.1 a (nI u) la s z0 o0 (i + 1)) from fO_k hout)]) ?_
        exact ih (i + 1) (sOv (64 * i) (((fS (D.1 14) (D.1 15) D.2.1 a (nI u) la s z0 i).1).1) fw (D.1 14 * D.1 15)) (sOv (64 * i) (((fS (D.1 14) (D.1 15) D.2.1 a (nI u) la s z0 i).1).2.2) bw (D.1 14 * D.1 15)) he2 (by omega) hW1
      · have hno : (fO (D.1 14) (D.1 15) D.2.1 a (nI u) la s z0 o0 i) = -1 := c_5
        refine zs_aload_n dX13_fires_132 rfl rfl ?_
        refine zs_callV (M := mX13_burning) (As := []) (st := []) (Kc := [(mo, .inr (11, fMo e (upd (upd g 70 (fL (D.1 14) (D.1 15) D.2.1 a (nI u) la s z0 g70 (i + 1))) 71 (fO (D.1 14) (D.1 15) D.2.1 a (nI u) la s z0 o0 i)) w)), ((e 14), .inl (0, 800, .inl nw)), ((e 65), .inl (0, 64, .inl (((fS (D.1 14) (D.1 15) D.2.1 a (nI u) la s z0 (i + 1)).1).2.2)))]) (Kr := [((e 64), .inl (0, 64, .inl (((fS (D.1 14) (D.1 15) D.2.1 a (nI u) la s z0 (i + 1)).1).1))), ((e 66), .inl (0, 64, .inl (((fS (D.1 14) (D.1 15) D.2.1 a (nI u) la s z0 (i + 1)).1).2.1))), ((e 67), .inl (0, 64, .inl he2)), ((e 68), .inl (0, 3904, .inl (sOv (64 * i) (((fS (D.1 14) (D.1 15) D.2.1 a (nI u) la s z0 i).1).1) fw (D.1 14 * D.1 15)))), ((e 69), .inl (0, 3904, .inl (sOv (64 * i) (((fS (D.1 14) (D.1 15) D.2.1 a (nI u) la s z0 i).1).2.2) bw (D.1 14 * D.1 15))))]) [0, 1, 3] [2, 4, 5, 6, 7] 0 dX13_fires_133 zl_RX13_436 kX13_burning rfl rfl rfl rfl rfl (by decide) rfl rfl (show dd - 1 + 1 ≤ dd by omega) (Nat.zero_le _) (Nat.zero_le _) (Nat.le_of_ble_eq_true rfl) (s_mBurning l (dd - 1) mo e (upd (upd g 70 (fL (D.1 14) (D.1 15) D.2.1 a (nI u) la s z0 g70 (i + 1))) 71 (fO (D.1 14) (D.1 15) D.2.1 a (nI u) la s z0 o0 i)) w nw D (((fS (D.1 14) (D.1 15) D.2.1 a (nI u) la s z0 (i + 1)).1).2.2) (by omega) hR hC hRo (fun j hj => (fS_K (u := u) (wi := D.2.1) (late := la) (se0 := z0) h64 ha hs (i + 1)).1 j hj |>.1)) (fun r K1 hr => ?_)
        obtain ⟨rfl, rfl⟩ := hr
        refine zs_K (K' := [(mo, .inr (11, fMo e (upd (upd g 70 (fL (D.1 14) (D.1 15) D.2.1 a (nI u) la s z0 g70 (i + 1))) 71 (fO (D.1 14) (D.1 15) D.2.1 a (nI u) la s z0 o0 i)) w)), ((e 14), .inl (0, 800, .inl nw)), ((e 64), .inl (0, 64, .inl (((fS (D.1 14) (D.1 15) D.2.1 a (nI u) la s z0 (i + 1)).1).1))), ((e 65), .inl (0, 64, .inl (((fS (D.1 14) (D.1 15) D.2.1 a (nI u) la s z0 (i + 1)).1).2.2))), ((e 66), .inl (0, 64, .inl (((fS (D.1 14) (D.1 15) D.2.1 a (nI u) la s z0 (i + 1)).1).2.1))), ((e 67), .inl (0, 64, .inl he2)), ((e 68), .inl (0, 3904, .inl (sOv (64 * i) (((fS (D.1 14) (D.1 15) D.2.1 a (nI u) la s z0 i).1).1) fw (D.1 14 * D.1 15)))), ((e 69), .inl (0, 3904, .inl (sOv (64 * i) (((fS (D.1 14) (D.1 15) D.2.1 a (nI u) la s z0 i).1).2.2) bw (D.1 14 * D.1 15))))]) [5, 6, 0, 7, 1, 2, 3, 4] rfl (by decide) ?_
        refine zs_if_ne (tgt := 147) dX13_fires_136 (by decide) (fun c_6 => ?_) (fun c_6 => ?_)
        · have hbn : ¬ mBn (D.1 14) (D.1 15) D.2.1 ((fS (D.1 14) (D.1 15) D.2.1 a (nI u) la s z0 i).1) (fC (D.1 14) (D.1 15) D.2.1 a (nI u) la s z0 i) (nI u) = 0 := by rw [← mBn_e]; exact c_6
          refine zs_iinc (v := (nI (i + 1))) (lv' := [(5, .int (nI (i + 1))), (6, .int (nI (i - la))), (0, .ref mo), (1, .int (nI M)), (2, .int (nI u)), (3, .int a), (4, .int (nI la))]) dX13_fires_147 rfl (nI_add _ 1) (Nat.le_of_ble_eq_true rfl) rfl ?_
          refine zs_goto (tgt := 19) dX13_fires_150 (by decide) ?_
          refine zs_lv [2, 3, 4, 5, 6, 0] rfl ?_
          refine zs_eq (K' := [(mo, .inr (11, fMo e (upd (upd g 70 (fL (D.1 14) (D.1 15) D.2.1 a (nI u) la s z0 g70 (i + 1))) 71 (fO (D.1 14) (D.1 15) D.2.1 a (nI u) la s z0 o0 (i + 1))) w)), ((e 14), .inl (0, 800, .inl nw)), ((e 64), .inl (0, 64, .inl (((fS (D.1 14) (D.1 15) D.2.1 a (nI u) la s z0 (i + 1)).1).1))), ((e 65), .inl (0, 64, .inl (((fS (D.1 14) (D.1 15) D.2.1 a (nI u) la s z0 (i + 1)).1).2.2))), ((e 66), .inl (0, 64, .inl (((fS (D.1 14) (D.1 15) D.2.1 a (nI u) la s z0 (i + 1)).1).2.1))), ((e 67), .inl (0, 64, .inl he2)), ((e 68), .inl (0, 3904, .inl (sOv (64 * i) (((fS (D.1 14) (D.1 15) D.2.1 a (nI u) la s z0 i).1).1) fw (D.1 14 * D.1 15)))), ((e 69), .inl (0, 3904, .inl (sOv (64 * i) (((fS (D.1 14) (D.1 15) D.2.1 a (nI u) la s z0 i).1).2.2) bw (D.1 14 * D.1 15))))]) (by rw [(show (fO (D.1 14) (D.1 15) D.2.1 a (nI u) la s z0 o0 i) = (fO (D.1 14) (D.1 15) D.2.1 a (nI u) la s z0 o0 (i + 1)) from fO_n hbn)]) ?_
          exact ih (i + 1) (sOv (64 * i) (((fS (D.1 14) (D.1 15) D.2.1 a (nI u) la s z0 i).1).1) fw (D.1 14 * D.1 15)) (sOv (64 * i) (((fS (D.1 14) (D.1 15) D.2.1 a (nI u) la s z0 i).1).2.2) bw (D.1 14 * D.1 15)) he2 (by omega) hW1
        · have hbz : mBn (D.1 14) (D.1 15) D.2.1 ((fS (D.1 14) (D.1 15) D.2.1 a (nI u) la s z0 i).1) (fC (D.1 14) (D.1 15) D.2.1 a (nI u) la s z0 i) (nI u) = 0 := by rw [← mBn_e]; exact c_6
          refine zs_aload_n dX13_fires_139 rfl rfl ?_
          refine zs_iload dX13_fires_140 rfl ?_
          refine zs_iconst (v := nI 1) dX13_fires_142 (by decide) ?_
          refine zs_iadd dX13_fires_143 ?_
          refine zs_as (y := nI (i + 1)) (nI_add _ _) ?_
          refine zs_put 0 dX13_fires_144 zf_RX13_439 rfl (Nat.le_of_ble_eq_true rfl) (zPv_i _) ?_
          show zS _ _ _ _ _ _ [(mo, .inr (11, fMo e (upd (upd g 70 (fL (D.1 14) (D.1 15) D.2.1 a (nI u) la s z0 g70 (i + 1))) 71 (nI (i + 1))) w)), ((e 14), .inl (0, 800, .inl nw)), ((e 64), .inl (0, 64, .inl (((fS (D.1 14) (D.1 15) D.2.1 a (nI u) la s z0 (i + 1)).1).1))), ((e 65), .inl (0, 64, .inl (((fS (D.1 14) (D.1 15) D.2.1 a (nI u) la s z0 (i + 1)).1).2.2))), ((e 66), .inl (0, 64, .inl (((fS (D.1 14) (D.1 15) D.2.1 a (nI u) la s z0 (i + 1)).1).2.1))), ((e 67), .inl (0, 64, .inl he2)), ((e 68), .inl (0, 3904, .inl (sOv (64 * i) (((fS (D.1 14) (D.1 15) D.2.1 a (nI u) la s z0 i).1).1) fw (D.1 14 * D.1 15)))), ((e 69), .inl (0, 3904, .inl (sOv (64 * i) (((fS (D.1 14) (D.1 15) D.2.1 a (nI u) la s z0 i).1).2.2) bw (D.1 14 * D.1 15))))]
          refine zs_iinc (v := (nI (i + 1))) (lv' := [(5, .int (nI (i + 1))), (6, .int (nI (i - la))), (0, .ref mo), (1, .int (nI M)), (2, .int (nI u)), (3, .int a), (4, .int (nI la))]) dX13_fires_147 rfl (nI_add _ 1) (Nat.le_of_ble_eq_true rfl) rfl ?_
          refine zs_goto (tgt := 19) dX13_fires_150 (by decide) ?_
          refine zs_lv [2, 3, 4, 5, 6, 0] rfl ?_
          refine zs_eq (K' := [(mo, .inr (11, fMo e (upd (upd g 70 (fL (D.1 14) (D.1 15) D.2.1 a (nI u) la s z0 g70 (i + 1))) 71 (fO (D.1 14) (D.1 15) D.2.1 a (nI u) la s z0 o0 (i + 1))) w)), ((e 14), .inl (0, 800, .inl nw)), ((e 64), .inl (0, 64, .inl (((fS (D.1 14) (D.1 15) D.2.1 a (nI u) la s z0 (i + 1)).1).1))), ((e 65), .inl (0, 64, .inl (((fS (D.1 14) (D.1 15) D.2.1 a (nI u) la s z0 (i + 1)).1).2.2))), ((e 66), .inl (0, 64, .inl (((fS (D.1 14) (D.1 15) D.2.1 a (nI u) la s z0 (i + 1)).1).2.1))), ((e 67), .inl (0, 64, .inl he2)), ((e 68), .inl (0, 3904, .inl (sOv (64 * i) (((fS (D.1 14) (D.1 15) D.2.1 a (nI u) la s z0 i).1).1) fw (D.1 14 * D.1 15)))), ((e 69), .inl (0, 3904, .inl (sOv (64 * i) (((fS (D.1 14) (D.1 15) D.2.1 a (nI u) la s z0 i).1).2.2) bw (D.1 14 * D.1 15))))]) (by rw [(show nI (i + 1) = (fO (D.1 14) (D.1 15) D.2.1 a (nI u) la s z0 o0 (i + 1)) from fO_y hbz hno)]) ?_
          exact ih (i + 1) (sOv (64 * i) (((fS (D.1 14) (D.1 15) D.2.1 a (nI u) la s z0 i).1).1) fw (D.1 14 * D.1 15)) (sOv (64 * i) (((fS (D.1 14) (D.1 15) D.2.1 a (nI u) la s z0 i).1).2.2) bw (D.1 14 * D.1 15)) he2 (by omega) hW1
set_option maxRecDepth 100000 in
theorem s_mFires (l : Launch) (dd : Nat) (mo : Nat) (e : Nat → Nat) (g : Nat → Int32) (w : Int64) (nw : Nat → Int32) (D : zYd) (s : zFs) (M u la V : Nat) (a : Int32) (fw bw he : Nat → Int32) (hd : 4 ≤ dd) (hR : yR D nw) (hC : D.1 14 ≤ 8) (hRo : D.1 15 ≤ 8) (hs : fK (D.1 14 * D.1 15) V s) (hV : V + u * 60 < 2147483648) (ha : aO (D.1 14) (D.1 15) a) (hM : M ≤ 60) (hla : la ≤ 20) : zSp l mX13_fires dd 0 0 [.ref mo, .int (nI M), .int (nI u), .int a, .int (nI la)] [(mo, .inr (11, fMo e g w)), ((e 14), .inl (0, 800, .inl nw)), ((e 64), .inl (0, 64, .inl (s.1))), ((e 65), .inl (0, 64, .inl (s.2.2))), ((e 66), .inl (0, 64, .inl (s.2.1))), ((e 67), .inl (0, 64, .inl he)), ((e 68), .inl (0, 3904, .inl fw)), ((e 69), .inl (0, 3904, .inl bw))] (fun r K' => r = none ∧ ∃ (he' fw' bw' : Nat → Int32), K' = [(mo, .inr (11, fMo e (upd (upd g 70 (fL (D.1 14) (D.1 15) D.2.1 a (nI u) la s z0 (g 70) M)) 71 (fO (D.1 14) (D.1 15) D.2.1 a (nI u) la s z0 (if pCnt s.2.2 (D.1 14 * D.1 15) = 0 then 0 else -1) M)) w)), ((e 14), .inl (0, 800, .inl nw)), ((e 64), .inl (0, 64, .inl (((fS (D.1 14) (D.1 15) D.2.1 a (nI u) la s z0 M).1).1))), ((e 65), .inl (0, 64, .inl (((fS (D.1 14) (D.1 15) D.2.1 a (nI u) la s z0 M).1).2.2))), ((e 66), .inl (0, 64, .inl (((fS (D.1 14) (D.1 15) D.2.1 a (nI u) la s z0 M).1).2.1))), ((e 67), .inl (0, 64, .inl (he'))), ((e 68), .inl (0, 3904, .inl (fw'))), ((e 69), .inl (0, 3904, .inl (bw')))]) := by
  refine zSp.of (by decide) (Nat.le_of_ble_eq_true rfl) (fun h0 => ?_)
  show zS _ 0 0 0 [(0, .ref mo), (1, .int (nI M)), (2, .int (nI u)), (3, .int a), (4, .int (nI la))] [] [(mo, .inr (11, fMo e g w)), ((e 14), .inl (0, 800, .inl nw)), ((e 64), .inl (0, 64, .inl (s.1))), ((e 65), .inl (0, 64, .inl (s.2.2))), ((e 66), .inl (0, 64, .inl (s.2.1))), ((e 67), .inl (0, 64, .inl he)), ((e 68), .inl (0, 3904, .inl fw)), ((e 69), .inl (0, 3904, .inl bw))]
  have h64 : D.1 14 * D.1 15 ≤ 64 := Nat.mul_le_mul hC hRo
  refine zs_aload_n dX13_fires_0 rfl rfl ?_
  refine zs_aload_n dX13_fires_1 rfl rfl ?_
  refine zs_callV (M := mX13_burning) (As := []) (st := [.ref mo]) (Kc := [(mo, .inr (11, fMo e g w)), ((e 14), .inl (0, 800, .inl nw)), ((e 65), .inl (0, 64, .inl (s.2.2)))]) (Kr := [((e 64), .inl (0, 64, .inl (s.1))), ((e 66), .inl (0, 64, .inl (s.2.1))), ((e 67), .inl (0, 64, .inl he)), ((e 68), .inl (0, 3904, .inl fw)), ((e 69), .inl (0, 3904, .inl bw))]) [0, 1, 3] [2, 4, 5, 6, 7] 0 dX13_fires_2 zl_RX13_436 kX13_burning rfl rfl rfl rfl rfl (by decide) rfl rfl (show dd - 1 + 1 ≤ dd by omega) (Nat.zero_le _) (Nat.zero_le _) (Nat.le_of_ble_eq_true rfl) (s_mBurning l (dd - 1) mo e g w nw D (s.2.2) (by omega) hR hC hRo (fun j hj => (hs.1 j hj).1)) (fun r K1 hr => ?_)
  obtain ⟨rfl, rfl⟩ := hr
  refine zs_K (K' := [(mo, .inr (11, fMo e g w)), ((e 14), .inl (0, 800, .inl nw)), ((e 64), .inl (0, 64, .inl (s.1))), ((e 65), .inl (0, 64, .inl (s.2.2))), ((e 66), .inl (0, 64, .inl (s.2.1))), ((e 67), .inl (0, 64, .inl he)), ((e 68), .inl (0, 3904, .inl fw)), ((e 69), .inl (0, 3904, .inl bw))]) [5, 6, 0, 7, 1, 2, 3, 4] rfl (by decide) ?_
  refine zs_if_ne (tgt := 12) dX13_fires_5 (by decide) (fun c_1 => ?_) (fun c_1 => ?_)
  · have hz : ¬ pCnt s.2.2 (D.1 14 * D.1 15) = 0 := c_1
    refine zs_iconst (v := (-1)) dX13_fires_12 (by decide) ?_
    refine zs_put 0 dX13_fires_13 zf_RX13_439 rfl (Nat.le_of_ble_eq_true rfl) (zPv_i _) ?_
    show zS _ _ _ _ _ _ [(mo, .inr (11, fMo e (upd g 71 (-1)) w)), ((e 14), .inl (0, 800, .inl nw)), ((e 64), .inl (0, 64, .inl (s.1))), ((e 65), .inl (0, 64, .inl (s.2.2))), ((e 66), .inl (0, 64, .inl (s.2.1))), ((e 67), .inl (0, 64, .inl he)), ((e 68), .inl (0, 3904, .inl fw)), ((e 69), .inl (0, 3904, .inl bw))]
    refine zs_iconst (v := nI 0) dX13_fires_16 (by decide) ?_
    refine zs_istore (lv' := [(5, .int (nI 0)), (0, .ref mo), (1, .int (nI M)), (2, .int (nI u)), (3, .int a), (4, .int (nI la))]) dX13_fires_17 (Nat.le_of_ble_eq_true rfl) rfl ?_
    refine zs_eq (K' := [(mo, .inr (11, fMo e (upd (upd g 70 (fL (D.1 14) (D.1 15) D.2.1 a (nI u) la s z0 (g 70) 0)) 71 (fO (D.1 14) (D.1 15) D.2.1 a (nI u) la s z0 (if pCnt s.2.2 (D.1 14 * D.1 15) = 0 then 0 else -1) 0)) w)), ((e 14), .inl (0, 800, .inl nw)), ((e 64), .inl (0, 64, .inl (((fS (D.1 14) (D.1 15) D.2.1 a (nI u) la s z0 0).1).1))), ((e 65), .inl (0, 64, .inl (((fS (D.1 14) (D.1 15) D.2.1 a (nI u) la s z0 0).1).2.2))), ((e 66), .inl (0, 64, .inl (((fS (D.1 14) (D.1 15) D.2.1 a (nI u) la s z0 0).1).2.1))), ((e 67), .inl (0, 64, .inl he)), ((e 68), .inl (0, 3904, .inl fw)), ((e 69), .inl (0, 3904, .inl bw))]) (by rw [upd_id (show g 70 = (fL (D.1 14) (D.1 15) D.2.1 a (nI u) la s z0 (g 70) 0) from rfl), show (fO (D.1 14) (D.1 15) D.2.1 a (nI u) la s z0 (if pCnt s.2.2 (D.1 14 * D.1 15) = 0 then 0 else -1) 0) = (-1) from if_neg hz]; try rfl) ?_
    refine zs_lv [1, 2, 3, 4, 5, 0] rfl ?_
    refine lp_mfires mo e g w nw D s M u la V a (g 70) (if pCnt s.2.2 (D.1 14 * D.1 15) = 0 then 0 else -1) hd hR hC hRo hs hV ha hM hla (fun fw2 bw2 he2 => ?_) M 0 fw bw he (Nat.zero_add _) (fun t ht => absurd ht (Nat.not_lt_zero t))
    exact zs_vret dX13_fires_153 rfl ⟨rfl, he2, fw2, bw2, rfl⟩
  · have hz : pCnt s.2.2 (D.1 14 * D.1 15) = 0 := c_1
    refine zs_iconst (v := nI 0) dX13_fires_8 (by decide) ?_
    refine zs_goto (tgt := 13) dX13_fires_9 (by decide) ?_
    refine zs_put 0 dX13_fires_13 zf_RX13_439 rfl (Nat.le_of_ble_eq_true rfl) (zPv_i _) ?_
    show zS _ _ _ _ _ _ [(mo, .inr (11, fMo e (upd g 71 (nI 0)) w)), ((e 14), .inl (0, 800, .inl nw)), ((e 64), .inl (0, 64, .inl (s.1))), ((e 65), .inl (0, 64, .inl (s.2.2))), ((e 66), .inl (0, 64, .inl (s.2.1))), ((e 67), .inl (0, 64, .inl he)), ((e 68), .inl (0, 3904, .inl fw)), ((e 69), .inl (0, 3904, .inl bw))]
    refine zs_iconst (v := nI 0) dX13_fires_16 (by decide) ?_
    refine zs_istore (lv' := [(5, .int (nI 0)), (0, .ref mo), (1, .int (nI M)), (2, .int (nI u)), (3, .int a), (4, .int (nI la))]) dX13_fires_17 (Nat.le_of_ble_eq_true rfl) rfl ?_
    refine zs_eq (K' := [(mo, .inr (11, fMo e (upd (upd g 70 (fL (D.1 14) (D.1 15) D.2.1 a (nI u) la s z0 (g 70) 0)) 71 (fO (D.1 14) (D.1 15) D.2.1 a (nI u) la s z0 (if pCnt s.2.2 (D.1 14 * D.1 15) = 0 then 0 else -1) 0)) w)), ((e 14), .inl (0, 800, .inl nw)), ((e 64), .inl (0, 64, .inl (((fS (D.1 14) (D.1 15) D.2.1 a (nI u) la s z0 0).1).1))), ((e 65), .inl (0, 64, .inl (((fS (D.1 14) (D.1 15) D.2.1 a (nI u) la s z0 0).1).2.2))), ((e 66), .inl (0, 64, .inl (((fS (D.1 14) (D.1 15) D.2.1 a (nI u) la s z0 0).1).2.1))), ((e 67), .inl (0, 64, .inl he)), ((e 68), .inl (0, 3904, .inl fw)), ((e 69), .inl (0, 3904, .inl bw))]) (by rw [upd_id (show g 70 = (fL (D.1 14) (D.1 15) D.2.1 a (nI u) la s z0 (g 70) 0) from rfl), show (fO (D.1 14) (D.1 15) D.2.1 a (nI u) la s z0 (if pCnt s.2.2 (D.1 14 * D.1 15) = 0 then 0 else -1) 0) = (nI 0) from if_pos hz]; try rfl) ?_
    refine zs_lv [1, 2, 3, 4, 5, 0] rfl ?_
    refine lp_mfires mo e g w nw D s M u la V a (g 70) (if pCnt s.2.2 (D.1 14 * D.1 15) = 0 then 0 else -1) hd hR hC hRo hs hV ha hM hla (fun fw2 bw2 he2 => ?_) M 0 fw bw he (Nat.zero_add _) (fun t ht => absurd ht (Nat.not_lt_zero t))
    exact zs_vret dX13_fires_153 rfl ⟨rfl, he2, fw2, bw2, rfl⟩
