/-! ===== PailRow.Row: a tick, many ticks ===== -/
def cDec (s : zRs) (p : Nat) : zRs := (s.1, uu s.2 3 (un (s.2 3) p (s.2 3 p - 1)))
theorem cI_up {B B' : Nat} {s : zRs} (h : cI B s) (hB : B ≤ B') : cI B' s := ⟨h.1, fun p hp => by have := h.2.1 p hp; omega, h.2.2⟩
theorem un_le {f : Nat → Nat} {k x b j : Nat} (h : f j ≤ b) (hx : x ≤ b) : un f k x j ≤ b := by
  unfold un
  split
  · exact hx
  · exact h
theorem un_lt {f : Nat → Nat} {k x b j : Nat} (h : f j < b) (hx : x < b) : un f k x j < b := by
  unfold un
  split
  · exact hx
  · exact h
theorem un_s (f : Nat → Nat) (k x : Nat) : un f k x k = x := if_pos rfl
theorem un_n {f : Nat → Nat} {k x j : Nat} (h : j ≠ k) : un f k x j = f j := if_neg h
theorem cI_dec {B p : Nat} {s : zRs} (h : cI B s) (hp : p < 12) : cI B (cDec s p) := by
  obtain ⟨h1, h2, h3⟩ := h
  refine ⟨h1, fun q hq => ?_, h3⟩
  obtain ⟨a1, a2, a3, a4⟩ := h2 q hq
  have b3 := (h2 p hp).2.2.1
  exact ⟨a1, a2, un_le a3 (by omega), a4⟩
theorem cI_fin {B p back spill : Nat} {s : zRs} (h : cI B s) (hp : p < s.1 1) : cI (B + 1) (cFin back spill s p) := by
  obtain ⟨⟨h0, h1⟩, h2, h3, h4⟩ := h
  have hpp := h2 p (by omega)
  unfold cFin
  split
  · refine ⟨⟨h0, h1⟩, fun q hq => ?_, h3, h4⟩
    obtain ⟨a1, a2, a3, a4, a5, a6⟩ := h2 q hq
    exact ⟨a1, a2, a3, a4, un_le (by omega) (by omega), a6⟩
  · split
    · refine ⟨⟨h0, h1⟩, fun q hq => ?_, h3, h4⟩
      obtain ⟨a1, a2, a3, a4, a5, a6⟩ := h2 q hq
      exact ⟨a1, a2, a3, a4, un_le (by omega) (by omega), a6⟩
    · rename_i h30
      refine ⟨⟨h0, h1⟩, fun q hq => ?_, fun q hq => ?_, h4⟩
      · obtain ⟨a1, a2, a3, a4, a5, a6, a7, a8⟩ := h2 q hq
        exact ⟨a1, a2, a3, a4, un_le (by omega) (by omega), a6, un_le a7 (by omega), a8⟩
      · exact un_le (h3 q hq) (by have := hpp.2.2.2.1; omega)
/-- the pails that come back -/
def cT0 (s : zRs) : zRs := (un (un s.1 12 (s.1 12 + 1)) 13 (s.1 13 + s.2 10 ((s.1 12 + 1) % 100)), uu s.2 10 (un (s.2 10) ((s.1 12 + 1) % 100) 0))
/-- a place in a tick -/
def cPa (back spill : Nat) (s : zRs) (p : Nat) : zRs := if s.2 3 p = 0 then s else if s.2 3 p - 1 = 0 then cFin back spill (cDec s p) p else cDec s p
def cPl (back spill hold : Nat) (pww : Nat → Nat) (s : zRs) (p : Nat) : zRs := if (cPa back spill s p).2 3 p = 0 then cSta hold pww (cPa back spill s p) p else cPa back spill s p
/-- the places below k, the last first -/
def cDn (back spill hold : Nat) (pww : Nat → Nat) : Nat → zRs → zRs
  | 0, s => s
  | k + 1, s => cDn back spill hold pww k (cPl back spill hold pww s k)
def cMo (s : zRs) : Nat → (Nat → Nat)
  | 0 => s.2 9
  | k + 1 => if k = 0 then s.2 9 else un (cMo s k) k (max (s.2 9 k) (s.2 8 k))
def cTick (back spill hold : Nat) (pww : Nat → Nat) (s : zRs) : zRs :=
  let d := cDn back spill hold pww (s.1 1) (cT0 s)
  (d.1, uu d.2 9 (cMo d (d.1 1)))
theorem cMo_ge (s : zRs) : ∀ k j, k ≤ j → cMo s k j = s.2 9 j
  | 0, j, _ => rfl
  | k + 1, j, h => by
    simp only [cMo]
    split
    · rfl
    · rw [un_n (by omega)]
      exact cMo_ge s k j (by omega)
theorem cFin_m (back spill p : Nat) (s : zRs) : (cFin back spill s p).1 1 = s.1 1 := by
  unfold cFin
  split
  · rfl
  · split <;> rfl
theorem cSta_m (hold p : Nat) (pww : Nat → Nat) (s : zRs) : (cSta hold pww s p).1 1 = s.1 1 := by
  unfold cSta
  split
  · split
    · rfl
    · split <;> rfl
  · split <;> rfl
theorem cPa_m (back spill p : Nat) (s : zRs) : (cPa back spill s p).1 1 = s.1 1 := by
  unfold cPa
  split
  · rfl
  · split
    · rw [cFin_m]; rfl
    · rfl
theorem cPl_m (back spill hold p : Nat) (pww : Nat → Nat) (s : zRs) : (cPl back spill hold pww s p).1 1 = s.1 1 := by
  unfold cPl
  split
  · rw [cSta_m, cPa_m]
  · rw [cPa_m]
theorem cDn_m (back spill hold : Nat) (pww : Nat → Nat) : ∀ (k : Nat) (s : zRs), (cDn back spill hold pww k s).1 1 = s.1 1
  | 0, _ => rfl
  | k + 1, s => by rw [cDn, cDn_m back spill hold pww k, cPl_m]
theorem cI_pa {B p back spill : Nat} {s : zRs} (h : cI B s) (hp : p < s.1 1) : cI (B + 1) (cPa back spill s p) := by
  have := h.1.2
  unfold cPa
  split
  · exact cI_up h (by omega)
  · split
    · exact cI_fin (cI_dec h (by omega)) hp
    · exact cI_up (cI_dec h (by omega)) (by omega)
theorem dX5_workTick_0 : decode cX5_workTick 0 = .ok (.aload_n 0, 1) := by decide +kernel
theorem dX5_workTick_1 : decode cX5_workTick 1 = .ok (.dup, 1) := by decide +kernel
theorem dX5_workTick_2 : decode cX5_workTick 2 = .ok (.getfield 62, 3) := by decide +kernel
theorem dX5_workTick_5 : decode cX5_workTick 5 = .ok (.iconst 1, 1) := by decide +kernel
theorem dX5_workTick_6 : decode cX5_workTick 6 = .ok (.iadd, 1) := by decide +kernel
theorem dX5_workTick_7 : decode cX5_workTick 7 = .ok (.putfield 62, 3) := by decide +kernel
theorem dX5_workTick_10 : decode cX5_workTick 10 = .ok (.aload_n 0, 1) := by decide +kernel
theorem dX5_workTick_11 : decode cX5_workTick 11 = .ok (.dup, 1) := by decide +kernel
theorem dX5_workTick_12 : decode cX5_workTick 12 = .ok (.getfield 68, 3) := by decide +kernel
theorem dX5_workTick_15 : decode cX5_workTick 15 = .ok (.aload_n 0, 1) := by decide +kernel
theorem dX5_workTick_16 : decode cX5_workTick 16 = .ok (.getfield 39, 3) := by decide +kernel
theorem dX5_workTick_19 : decode cX5_workTick 19 = .ok (.aload_n 0, 1) := by decide +kernel
theorem dX5_workTick_20 : decode cX5_workTick 20 = .ok (.getfield 62, 3) := by decide +kernel
theorem dX5_workTick_23 : decode cX5_workTick 23 = .ok (.bipush 100, 2) := by decide +kernel
theorem dX5_workTick_25 : decode cX5_workTick 25 = .ok (.irem, 1) := by decide +kernel
theorem dX5_workTick_26 : decode cX5_workTick 26 = .ok (.iaload, 1) := by decide +kernel
theorem dX5_workTick_27 : decode cX5_workTick 27 = .ok (.iadd, 1) := by decide +kernel
theorem dX5_workTick_28 : decode cX5_workTick 28 = .ok (.putfield 68, 3) := by decide +kernel
theorem dX5_workTick_31 : decode cX5_workTick 31 = .ok (.aload_n 0, 1) := by decide +kernel
theorem dX5_workTick_32 : decode cX5_workTick 32 = .ok (.getfield 39, 3) := by decide +kernel
theorem dX5_workTick_35 : decode cX5_workTick 35 = .ok (.aload_n 0, 1) := by decide +kernel
theorem dX5_workTick_36 : decode cX5_workTick 36 = .ok (.getfield 62, 3) := by decide +kernel
theorem dX5_workTick_39 : decode cX5_workTick 39 = .ok (.bipush 100, 2) := by decide +kernel
theorem dX5_workTick_41 : decode cX5_workTick 41 = .ok (.irem, 1) := by decide +kernel
theorem dX5_workTick_42 : decode cX5_workTick 42 = .ok (.iconst 0, 1) := by decide +kernel
theorem dX5_workTick_43 : decode cX5_workTick 43 = .ok (.iastore, 1) := by decide +kernel
theorem dX5_workTick_44 : decode cX5_workTick 44 = .ok (.aload_n 0, 1) := by decide +kernel
theorem dX5_workTick_45 : decode cX5_workTick 45 = .ok (.getfield 52, 3) := by decide +kernel
theorem dX5_workTick_48 : decode cX5_workTick 48 = .ok (.iconst 1, 1) := by decide +kernel
theorem dX5_workTick_49 : decode cX5_workTick 49 = .ok (.isub, 1) := by decide +kernel
theorem dX5_workTick_50 : decode cX5_workTick 50 = .ok (.istore_n 1, 1) := by decide +kernel
theorem dX5_workTick_51 : decode cX5_workTick 51 = .ok (.iload_n 1, 1) := by decide +kernel
theorem dX5_workTick_52 : decode cX5_workTick 52 = .ok (.ifCond .lt 56, 3) := by decide +kernel
theorem dX5_workTick_55 : decode cX5_workTick 55 = .ok (.aload_n 0, 1) := by decide +kernel
theorem dX5_workTick_56 : decode cX5_workTick 56 = .ok (.getfield 18, 3) := by decide +kernel
theorem dX5_workTick_59 : decode cX5_workTick 59 = .ok (.iload_n 1, 1) := by decide +kernel
theorem dX5_workTick_60 : decode cX5_workTick 60 = .ok (.iaload, 1) := by decide +kernel
theorem dX5_workTick_61 : decode cX5_workTick 61 = .ok (.ifCond .le 27, 3) := by decide +kernel
theorem dX5_workTick_64 : decode cX5_workTick 64 = .ok (.aload_n 0, 1) := by decide +kernel
theorem dX5_workTick_65 : decode cX5_workTick 65 = .ok (.getfield 18, 3) := by decide +kernel
theorem dX5_workTick_68 : decode cX5_workTick 68 = .ok (.iload_n 1, 1) := by decide +kernel
theorem dX5_workTick_69 : decode cX5_workTick 69 = .ok (.dup2, 1) := by decide +kernel
theorem dX5_workTick_70 : decode cX5_workTick 70 = .ok (.iaload, 1) := by decide +kernel
theorem dX5_workTick_71 : decode cX5_workTick 71 = .ok (.iconst 1, 1) := by decide +kernel
theorem dX5_workTick_72 : decode cX5_workTick 72 = .ok (.isub, 1) := by decide +kernel
theorem dX5_workTick_73 : decode cX5_workTick 73 = .ok (.iastore, 1) := by decide +kernel
theorem dX5_workTick_74 : decode cX5_workTick 74 = .ok (.aload_n 0, 1) := by decide +kernel
theorem dX5_workTick_75 : decode cX5_workTick 75 = .ok (.getfield 18, 3) := by decide +kernel
theorem dX5_workTick_78 : decode cX5_workTick 78 = .ok (.iload_n 1, 1) := by decide +kernel
theorem dX5_workTick_79 : decode cX5_workTick 79 = .ok (.iaload, 1) := by decide +kernel
theorem dX5_workTick_80 : decode cX5_workTick 80 = .ok (.ifCond .ne 8, 3) := by decide +kernel
theorem dX5_workTick_83 : decode cX5_workTick 83 = .ok (.aload_n 0, 1) := by decide +kernel
theorem dX5_workTick_84 : decode cX5_workTick 84 = .ok (.iload_n 1, 1) := by decide +kernel
theorem dX5_workTick_85 : decode cX5_workTick 85 = .ok (.invokevirtual 89, 3) := by decide +kernel
theorem dX5_workTick_88 : decode cX5_workTick 88 = .ok (.aload_n 0, 1) := by decide +kernel
theorem dX5_workTick_89 : decode cX5_workTick 89 = .ok (.getfield 18, 3) := by decide +kernel
theorem dX5_workTick_92 : decode cX5_workTick 92 = .ok (.iload_n 1, 1) := by decide +kernel
theorem dX5_workTick_93 : decode cX5_workTick 93 = .ok (.iaload, 1) := by decide +kernel
theorem dX5_workTick_94 : decode cX5_workTick 94 = .ok (.ifCond .ne 8, 3) := by decide +kernel
theorem dX5_workTick_97 : decode cX5_workTick 97 = .ok (.aload_n 0, 1) := by decide +kernel
theorem dX5_workTick_98 : decode cX5_workTick 98 = .ok (.iload_n 1, 1) := by decide +kernel
theorem dX5_workTick_99 : decode cX5_workTick 99 = .ok (.invokevirtual 93, 3) := by decide +kernel
theorem dX5_workTick_102 : decode cX5_workTick 102 = .ok (.iinc 1 (-1), 3) := by decide +kernel
theorem dX5_workTick_105 : decode cX5_workTick 105 = .ok (.goto (-54), 3) := by decide +kernel
theorem dX5_workTick_108 : decode cX5_workTick 108 = .ok (.iconst 1, 1) := by decide +kernel
theorem dX5_workTick_109 : decode cX5_workTick 109 = .ok (.istore_n 1, 1) := by decide +kernel
theorem dX5_workTick_110 : decode cX5_workTick 110 = .ok (.iload_n 1, 1) := by decide +kernel
theorem dX5_workTick_111 : decode cX5_workTick 111 = .ok (.aload_n 0, 1) := by decide +kernel
theorem dX5_workTick_112 : decode cX5_workTick 112 = .ok (.getfield 52, 3) := by decide +kernel
theorem dX5_workTick_115 : decode cX5_workTick 115 = .ok (.if_icmp .ge 30, 3) := by decide +kernel
theorem dX5_workTick_118 : decode cX5_workTick 118 = .ok (.aload_n 0, 1) := by decide +kernel
theorem dX5_workTick_119 : decode cX5_workTick 119 = .ok (.getfield 36, 3) := by decide +kernel
theorem dX5_workTick_122 : decode cX5_workTick 122 = .ok (.iload_n 1, 1) := by decide +kernel
theorem dX5_workTick_123 : decode cX5_workTick 123 = .ok (.aload_n 0, 1) := by decide +kernel
theorem dX5_workTick_124 : decode cX5_workTick 124 = .ok (.getfield 36, 3) := by decide +kernel
theorem dX5_workTick_127 : decode cX5_workTick 127 = .ok (.iload_n 1, 1) := by decide +kernel
theorem dX5_workTick_128 : decode cX5_workTick 128 = .ok (.iaload, 1) := by decide +kernel
theorem dX5_workTick_129 : decode cX5_workTick 129 = .ok (.aload_n 0, 1) := by decide +kernel
theorem dX5_workTick_130 : decode cX5_workTick 130 = .ok (.getfield 33, 3) := by decide +kernel
theorem dX5_workTick_133 : decode cX5_workTick 133 = .ok (.iload_n 1, 1) := by decide +kernel
theorem dX5_workTick_134 : decode cX5_workTick 134 = .ok (.iaload, 1) := by decide +kernel
theorem dX5_workTick_135 : decode cX5_workTick 135 = .ok (.invokestatic 96, 3) := by decide +kernel
theorem dX5_workTick_138 : decode cX5_workTick 138 = .ok (.iastore, 1) := by decide +kernel
theorem dX5_workTick_139 : decode cX5_workTick 139 = .ok (.iinc 1 1, 3) := by decide +kernel
theorem dX5_workTick_142 : decode cX5_workTick 142 = .ok (.goto (-32), 3) := by decide +kernel
theorem dX5_workTick_145 : decode cX5_workTick 145 = .ok (.return_, 1) := by decide +kernel
set_option maxRecDepth 100000 in
theorem tk_55 {l : Launch} {dd : Nat} {Po : zPo} {K0 : zK} {h0 : List va_E} {Xo : zK → Prop} {Gc : zG → Prop} (ro y : Nat) (ar ay : Nat → Nat) (s : zRs) (Y : Nat → Nat) (wi : Int32) (nm : Nat → Int32) (hdd pcc pww : Nat → Nat) (yf yb : Nat → Int32) (p : Nat) (hd : 2 ≤ dd) (hp : p < s.1 1) (hY6 : 1 ≤ Y 7 ∧ Y 7 ≤ 20) (hY10 : Y 10 ≤ 99) (hY11 : Y 11 ≤ 99) (hpw : ∀ j, j < 12 → pww j ≤ 99) (hI : cI 1000000 s) (hk : zS (l, mX5_workTick, dd, Po, K0, h0, Xo, Gc) 0 0 88 [(0, .ref ro), (1, .int (nI p))] [] (kRow ro ar (.ref y) (cPa (Y 11) (Y 10) s p) ++ kYrd y ay Y wi nm hdd pcc pww yf yb)) : zS (l, mX5_workTick, dd, Po, K0, h0, Xo, Gc) 0 0 55 [(0, .ref ro), (1, .int (nI p))] [] [(ro, .inr (4, fRow ar (nF s.1) (.ref y))), (ar 1, .inl (0, 12, .inl (nF (s.2 1)))), (ar 2, .inl (0, 12, .inl (nF (s.2 2)))), (ar 3, .inl (0, 12, .inl (nF (s.2 3)))), (ar 4, .inl (0, 12, .inl (nF (s.2 4)))), (ar 5, .inl (0, 12, .inl (nF (s.2 5)))), (ar 6, .inl (0, 360, .inl (nF (s.2 6)))), (ar 7, .inl (0, 12, .inl (nF (s.2 7)))), (ar 8, .inl (0, 12, .inl (nF (s.2 8)))), (ar 9, .inl (0, 12, .inl (nF (s.2 9)))), (ar 10, .inl (0, 100, .inl (nF (s.2 10)))), (y, .inr (9, fYard ay (ysN Y wi))), (ay 1, .inl (0, 12, .inl nm)), (ay 2, .inl (0, 12, .inl (nF hdd))), (ay 3, .inl (0, 12, .inl (nF pcc))), (ay 4, .inl (0, 12, .inl (nF pww))), (ay 5, .inl (0, 64, .inl yf)), (ay 6, .inl (1, 64, .inl yb))] := by
  have h12 := hI.1.2
  have bp := hI.2.1 p (by omega)
  refine zs_aload_n dX5_workTick_55 rfl rfl ?_
  refine zs_get 0 dX5_workTick_56 zf_RX5_18 rfl (v := .ref (ar 3)) rfl ?_
  refine zs_iload_n dX5_workTick_59 rfl ?_
  refine zs_iald 3 dX5_workTick_60 rfl (vp_in_nI (by omega) (by omega)) ?_
  refine zs_as (y := nI ((s.2 3) p)) (by rw [nI_c (n := p) (by omega)]; rfl) ?_
  refine zs_if_le (tgt := 88) dX5_workTick_61 (by decide) (fun c_1 => ?_) (fun c_1 => ?_)
  · have c_1 : ((s.2 3) p) ≤ 0 := by have hc := c_1; rw [show (0 : Int32) = nI 0 from rfl] at hc; rw [nI_le' (by omega) (by omega)] at hc; exact hc
    refine zs_lv [0, 1] rfl ?_
    rw [cPa, if_pos (show s.2 3 p = 0 by omega)] at hk
    exact hk
  · have c_1 : ¬ (((s.2 3) p) ≤ 0) := by have hc := c_1; rw [show (0 : Int32) = nI 0 from rfl] at hc; rw [nI_le' (by omega) (by omega)] at hc; exact hc
    refine zs_aload_n dX5_workTick_64 rfl rfl ?_
    refine zs_get 0 dX5_workTick_65 zf_RX5_18 rfl (v := .ref (ar 3)) rfl ?_
    refine zs_iload_n dX5_workTick_68 rfl ?_
    refine zs_dup2 dX5_workTick_69 rfl rfl ?_
    refine zs_iald 3 dX5_workTick_70 rfl (vp_in_nI (by omega) (by omega)) ?_
    refine zs_as (y := nI ((s.2 3) p)) (by rw [nI_c (n := p) (by omega)]; rfl) ?_
    refine zs_iconst (v := nI 1) dX5_workTick_71 (by decide) ?_
    refine zs_isub dX5_workTick_72 ?_
    refine zs_as (y := nI (((s.2 3) p) - 1)) (nI_sub (by omega)) ?_
    refine zs_iast 3 dX5_workTick_73 rfl (vp_in_nI (by omega) (by omega)) ?_
    rw [nI_c (n := p) (by omega), nF_u]
    show zS _ _ _ _ _ _ [(ro, .inr (4, fRow ar (nF s.1) (.ref y))), (ar 1, .inl (0, 12, .inl (nF (s.2 1)))), (ar 2, .inl (0, 12, .inl (nF (s.2 2)))), (ar 3, .inl (0, 12, .inl (nF (un (s.2 3) p (((s.2 3) p) - 1))))), (ar 4, .inl (0, 12, .inl (nF (s.2 4)))), (ar 5, .inl (0, 12, .inl (nF (s.2 5)))), (ar 6, .inl (0, 360, .inl (nF (s.2 6)))), (ar 7, .inl (0, 12, .inl (nF (s.2 7)))), (ar 8, .inl (0, 12, .inl (nF (s.2 8)))), (ar 9, .inl (0, 12, .inl (nF (s.2 9)))), (ar 10, .inl (0, 100, .inl (nF (s.2 10)))), (y, .inr (9, fYard ay (ysN Y wi))), (ay 1, .inl (0, 12, .inl nm)), (ay 2, .inl (0, 12, .inl (nF hdd))), (ay 3, .inl (0, 12, .inl (nF pcc))), (ay 4, .inl (0, 12, .inl (nF pww))), (ay 5, .inl (0, 64, .inl yf)), (ay 6, .inl (1, 64, .inl yb))]
    refine zs_aload_n dX5_workTick_74 rfl rfl ?_
    refine zs_get 0 dX5_workTick_75 zf_RX5_18 rfl (v := .ref (ar 3)) rfl ?_
    refine zs_iload_n dX5_workTick_78 rfl ?_
    refine zs_iald 3 dX5_workTick_79 rfl (vp_in_nI (by omega) (by omega)) ?_
    refine zs_as (y := nI (((s.2 3) p) - 1)) (by rw [nI_c (n := p) (by omega)]; exact congrArg nI (if_pos rfl)) ?_
    refine zs_if_ne (tgt := 88) dX5_workTick_80 (by decide) (fun c_2 => ?_) (fun c_2 => ?_)
    · have c_2 : ¬ ((((s.2 3) p) - 1) = 0) := by have hc := c_2; rw [show (0 : Int32) = nI 0 from rfl] at hc; rw [nI_eq' (by omega) (by omega)] at hc; exact hc
      refine zs_lv [0, 1] rfl ?_
      rw [cPa, if_neg (show ¬ s.2 3 p = 0 by omega), if_neg c_2] at hk
      exact hk
    · have c_2 : (((s.2 3) p) - 1) = 0 := by have hc := c_2; rw [show (0 : Int32) = nI 0 from rfl] at hc; rw [nI_eq' (by omega) (by omega)] at hc; exact hc
      refine zs_aload_n dX5_workTick_83 rfl rfl ?_
      refine zs_iload_n dX5_workTick_84 rfl ?_
      refine zs_callV (M := mX5_finish) (As := [.int (nI p)]) (st := []) (Kc := [(ro, .inr (4, fRow ar (nF s.1) (.ref y))), (ar 1, .inl (0, 12, .inl (nF (s.2 1)))), (ar 2, .inl (0, 12, .inl (nF (s.2 2)))), (ar 3, .inl (0, 12, .inl (nF (un (s.2 3) p (((s.2 3) p) - 1))))), (ar 4, .inl (0, 12, .inl (nF (s.2 4)))), (ar 5, .inl (0, 12, .inl (nF (s.2 5)))), (ar 6, .inl (0, 360, .inl (nF (s.2 6)))), (ar 7, .inl (0, 12, .inl (nF (s.2 7)))), (ar 8, .inl (0, 12, .inl (nF (s.2 8)))), (ar 9, .inl (0, 12, .inl (nF (s.2 9)))), (ar 10, .inl (0, 100, .inl (nF (s.2 10)))), (y, .inr (9, fYard ay (ysN Y wi))), (ay 1, .inl (0, 12, .inl nm)), (ay 2, .inl (0, 12, .inl (nF hdd))), (ay 3, .inl (0, 12, .inl (nF pcc))), (ay 4, .inl (0, 12, .inl (nF pww))), (ay 5, .inl (0, 64, .inl yf)), (ay 6, .inl (1, 64, .inl yb))]) (Kr := []) [0, 1, 2, 3, 4, 5, 6, 7, 8, 9, 10, 11, 12, 13, 14, 15, 16, 17] [] 0 dX5_workTick_85 zl_RX5_89 kX5_finish rfl rfl rfl rfl rfl (by decide) rfl rfl (show dd - 1 + 1 ≤ dd by omega) (Nat.zero_le _) (Nat.zero_le _) (Nat.le_of_ble_eq_true rfl) (s_rowFin l (dd - 1) ro y ar ay (cDec s p) Y wi nm hdd pcc pww yf yb p hp hY6 hY10 hY11 hpw 1000000 (by omega) (cI_dec hI (by omega))) (fun r K1 hr => ?_)
      obtain ⟨rfl, rfl⟩ := hr
      refine zs_K (K' := [(ro, .inr (4, fRow ar (nF (cFin (Y 11) (Y 10) (cDec s p) p).1) (.ref y))), (ar 1, .inl (0, 12, .inl (nF ((cFin (Y 11) (Y 10) (cDec s p) p).2 1)))), (ar 2, .inl (0, 12, .inl (nF ((cFin (Y 11) (Y 10) (cDec s p) p).2 2)))), (ar 3, .inl (0, 12, .inl (nF ((cFin (Y 11) (Y 10) (cDec s p) p).2 3)))), (ar 4, .inl (0, 12, .inl (nF ((cFin (Y 11) (Y 10) (cDec s p) p).2 4)))), (ar 5, .inl (0, 12, .inl (nF ((cFin (Y 11) (Y 10) (cDec s p) p).2 5)))), (ar 6, .inl (0, 360, .inl (nF ((cFin (Y 11) (Y 10) (cDec s p) p).2 6)))), (ar 7, .inl (0, 12, .inl (nF ((cFin (Y 11) (Y 10) (cDec s p) p).2 7)))), (ar 8, .inl (0, 12, .inl (nF ((cFin (Y 11) (Y 10) (cDec s p) p).2 8)))), (ar 9, .inl (0, 12, .inl (nF ((cFin (Y 11) (Y 10) (cDec s p) p).2 9)))), (ar 10, .inl (0, 100, .inl (nF ((cFin (Y 11) (Y 10) (cDec s p) p).2 10)))), (y, .inr (9, fYard ay (ysN Y wi))), (ay 1, .inl (0, 12, .inl nm)), (ay 2, .inl (0, 12, .inl (nF hdd))), (ay 3, .inl (0, 12, .inl (nF pcc))), (ay 4, .inl (0, 12, .inl (nF pww))), (ay 5, .inl (0, 64, .inl yf)), (ay 6, .inl (1, 64, .inl yb))]) [0, 1, 2, 3, 4, 5, 6, 7, 8, 9, 10, 11, 12, 13, 14, 15, 16, 17] rfl (by decide) ?_
      refine zs_lv [0, 1] rfl ?_
      rw [cPa, if_neg (show ¬ s.2 3 p = 0 by omega), if_pos c_2] at hk
      exact hk
set_option maxRecDepth 100000 in
theorem tk_88 {l : Launch} {dd : Nat} {Po : zPo} {K0 : zK} {h0 : List va_E} {Xo : zK → Prop} {Gc : zG → Prop} (ro y : Nat) (ar ay : Nat → Nat) (s : zRs) (Y : Nat → Nat) (wi : Int32) (nm : Nat → Int32) (hdd pcc pww : Nat → Nat) (yf yb : Nat → Int32) (p : Nat) (hd : 2 ≤ dd) (hp : p < s.1 1) (hY6 : 1 ≤ Y 7 ∧ Y 7 ≤ 20) (hY10 : Y 10 ≤ 99) (hY11 : Y 11 ≤ 99) (hpw : ∀ j, j < 12 → pww j ≤ 99) (hI : cI 1000001 s) (hk : zS (l, mX5_workTick, dd, Po, K0, h0, Xo, Gc) 0 0 102 [(0, .ref ro), (1, .int (nI p))] [] (kRow ro ar (.ref y) (if s.2 3 p = 0 then cSta (Y 7) pww s p else s) ++ kYrd y ay Y wi nm hdd pcc pww yf yb)) : zS (l, mX5_workTick, dd, Po, K0, h0, Xo, Gc) 0 0 88 [(0, .ref ro), (1, .int (nI p))] [] [(ro, .inr (4, fRow ar (nF s.1) (.ref y))), (ar 1, .inl (0, 12, .inl (nF (s.2 1)))), (ar 2, .inl (0, 12, .inl (nF (s.2 2)))), (ar 3, .inl (0, 12, .inl (nF (s.2 3)))), (ar 4, .inl (0, 12, .inl (nF (s.2 4)))), (ar 5, .inl (0, 12, .inl (nF (s.2 5)))), (ar 6, .inl (0, 360, .inl (nF (s.2 6)))), (ar 7, .inl (0, 12, .inl (nF (s.2 7)))), (ar 8, .inl (0, 12, .inl (nF (s.2 8)))), (ar 9, .inl (0, 12, .inl (nF (s.2 9)))), (ar 10, .inl (0, 100, .inl (nF (s.2 10)))), (y, .inr (9, fYard ay (ysN Y wi))), (ay 1, .inl (0, 12, .inl nm)), (ay 2, .inl (0, 12, .inl (nF hdd))), (ay 3, .inl (0, 12, .inl (nF pcc))), (ay 4, .inl (0, 12, .inl (nF pww))), (ay 5, .inl (0, 64, .inl yf)), (ay 6, .inl (1, 64, .inl yb))] := by
  have h12 := hI.1.2
  have bp := hI.2.1 p (by omega)
  refine zs_aload_n dX5_workTick_88 rfl rfl ?_
  refine zs_get 0 dX5_workTick_89 zf_RX5_18 rfl (v := .ref (ar 3)) rfl ?_
  refine zs_iload_n dX5_workTick_92 rfl ?_
  refine zs_iald 3 dX5_workTick_93 rfl (vp_in_nI (by omega) (by omega)) ?_
  refine zs_as (y := nI ((s.2 3) p)) (by rw [nI_c (n := p) (by omega)]; rfl) ?_
  refine zs_if_ne (tgt := 102) dX5_workTick_94 (by decide) (fun c_1 => ?_) (fun c_1 => ?_)
  · have c_1 : ¬ (((s.2 3) p) = 0) := by have hc := c_1; rw [show (0 : Int32) = nI 0 from rfl] at hc; rw [nI_eq' (by omega) (by omega)] at hc; exact hc
    refine zs_lv [0, 1] rfl ?_
    rw [if_neg c_1] at hk
    exact hk
  · have c_1 : ((s.2 3) p) = 0 := by have hc := c_1; rw [show (0 : Int32) = nI 0 from rfl] at hc; rw [nI_eq' (by omega) (by omega)] at hc; exact hc
    refine zs_aload_n dX5_workTick_97 rfl rfl ?_
    refine zs_iload_n dX5_workTick_98 rfl ?_
    refine zs_callV (M := mX5_start) (As := [.int (nI p)]) (st := []) (Kc := [(ro, .inr (4, fRow ar (nF s.1) (.ref y))), (ar 1, .inl (0, 12, .inl (nF (s.2 1)))), (ar 2, .inl (0, 12, .inl (nF (s.2 2)))), (ar 3, .inl (0, 12, .inl (nF (s.2 3)))), (ar 4, .inl (0, 12, .inl (nF (s.2 4)))), (ar 5, .inl (0, 12, .inl (nF (s.2 5)))), (ar 6, .inl (0, 360, .inl (nF (s.2 6)))), (ar 7, .inl (0, 12, .inl (nF (s.2 7)))), (ar 8, .inl (0, 12, .inl (nF (s.2 8)))), (ar 9, .inl (0, 12, .inl (nF (s.2 9)))), (ar 10, .inl (0, 100, .inl (nF (s.2 10)))), (y, .inr (9, fYard ay (ysN Y wi))), (ay 1, .inl (0, 12, .inl nm)), (ay 2, .inl (0, 12, .inl (nF hdd))), (ay 3, .inl (0, 12, .inl (nF pcc))), (ay 4, .inl (0, 12, .inl (nF pww))), (ay 5, .inl (0, 64, .inl yf)), (ay 6, .inl (1, 64, .inl yb))]) (Kr := []) [0, 1, 2, 3, 4, 5, 6, 7, 8, 9, 10, 11, 12, 13, 14, 15, 16, 17] [] 0 dX5_workTick_99 zl_RX5_93 kX5_start rfl rfl rfl rfl rfl (by decide) rfl rfl (show dd - 1 + 1 ≤ dd by omega) (Nat.zero_le _) (Nat.zero_le _) (Nat.le_of_ble_eq_true rfl) (s_rowSta l (dd - 1) ro y ar ay s Y wi nm hdd pcc pww yf yb p (by omega) hp hY6 hY10 hY11 hpw 1000001 (by omega) hI) (fun r K1 hr => ?_)
    obtain ⟨rfl, rfl⟩ := hr
    refine zs_K (K' := [(ro, .inr (4, fRow ar (nF (cSta (Y 7) pww s p).1) (.ref y))), (ar 1, .inl (0, 12, .inl (nF ((cSta (Y 7) pww s p).2 1)))), (ar 2, .inl (0, 12, .inl (nF ((cSta (Y 7) pww s p).2 2)))), (ar 3, .inl (0, 12, .inl (nF ((cSta (Y 7) pww s p).2 3)))), (ar 4, .inl (0, 12, .inl (nF ((cSta (Y 7) pww s p).2 4)))), (ar 5, .inl (0, 12, .inl (nF ((cSta (Y 7) pww s p).2 5)))), (ar 6, .inl (0, 360, .inl (nF ((cSta (Y 7) pww s p).2 6)))), (ar 7, .inl (0, 12, .inl (nF ((cSta (Y 7) pww s p).2 7)))), (ar 8, .inl (0, 12, .inl (nF ((cSta (Y 7) pww s p).2 8)))), (ar 9, .inl (0, 12, .inl (nF ((cSta (Y 7) pww s p).2 9)))), (ar 10, .inl (0, 100, .inl (nF ((cSta (Y 7) pww s p).2 10)))), (y, .inr (9, fYard ay (ysN Y wi))), (ay 1, .inl (0, 12, .inl nm)), (ay 2, .inl (0, 12, .inl (nF hdd))), (ay 3, .inl (0, 12, .inl (nF pcc))), (ay 4, .inl (0, 12, .inl (nF pww))), (ay 5, .inl (0, 64, .inl yf)), (ay 6, .inl (1, 64, .inl yb))]) [0, 1, 2, 3, 4, 5, 6, 7, 8, 9, 10, 11, 12, 13, 14, 15, 16, 17] rfl (by decide) ?_
    refine zs_lv [0, 1] rfl ?_
    rw [if_pos c_1] at hk
    exact hk
set_option maxRecDepth 100000 in
theorem lp_tick {l : Launch} {dd : Nat} {Po : zPo} {K0 : zK} {h0 : List va_E} {Xo : zK → Prop} {Gc : zG → Prop} (ro y : Nat) (ar ay : Nat → Nat) (Y : Nat → Nat) (wi : Int32) (nm : Nat → Int32) (hdd pcc pww : Nat → Nat) (yf yb : Nat → Int32) (hd : 2 ≤ dd) (hY6 : 1 ≤ Y 7 ∧ Y 7 ≤ 20) (hY10 : Y 10 ≤ 99) (hY11 : Y 11 ≤ 99) (hpw : ∀ j, j < 12 → pww j ≤ 99) (Inv : Nat → zRs → Prop) (hI : ∀ k s, Inv k s → cI 1000000 s) (hP : ∀ s p, Inv (p + 1) s → p < s.1 1 → Inv p (cPl (Y 11) (Y 10) (Y 7) pww s p)) : ∀ (k : Nat) (s : zRs), k ≤ s.1 1 → Inv k s → zS (l, mX5_workTick, dd, Po, K0, h0, Xo, Gc) 0 0 108 [(0, .ref ro)] [] (kRow ro ar (.ref y) (cDn (Y 11) (Y 10) (Y 7) pww k s) ++ kYrd y ay Y wi nm hdd pcc pww yf yb) → zS (l, mX5_workTick, dd, Po, K0, h0, Xo, Gc) 0 0 51 [(0, .ref ro), (1, .int (nI k - 1))] [] (kRow ro ar (.ref y) s ++ kYrd y ay Y wi nm hdd pcc pww yf yb) := by
  intro k
  induction k with
  | zero =>
    intro s hk hs h
    refine zs_iload_n dX5_workTick_51 rfl ?_
    refine zs_if_lt (tgt := 108) dX5_workTick_52 (by decide) (fun c => ?_) (fun c => absurd (by decide) c)
    refine zs_lv [0] rfl ?_
    exact h
  | succ k ih =>
    intro s hk hs h
    have h12 := (hI _ s hs).1.2
    rw [show nI (k + 1) - 1 = nI k from nI_sub (b := 1) (by omega)]
    refine zs_iload_n dX5_workTick_51 rfl ?_
    refine zs_if_lt (tgt := 108) dX5_workTick_52 (by decide) (fun c => absurd c (nI_pos (by omega))) (fun c => ?_)
    refine tk_55 ro y ar ay s Y wi nm hdd pcc pww yf yb k hd (by omega) hY6 hY10 hY11 hpw (hI _ s hs) ?_
    refine tk_88 ro y ar ay (cPa (Y 11) (Y 10) s k) Y wi nm hdd pcc pww yf yb k hd (by rw [cPa_m]; omega) hY6 hY10 hY11 hpw (cI_pa (hI _ s hs) (by omega)) ?_
    refine zs_iinc (v := nI k - 1) (lv' := [(1, .int (nI k - 1)), (0, .ref ro)]) dX5_workTick_102 rfl (by rw [Int32.sub_eq_add_neg]; rfl) (Nat.le_of_ble_eq_true rfl) rfl ?_
    refine zs_goto (tgt := 51) dX5_workTick_105 (by decide) ?_
    refine zs_lv [1, 0] rfl ?_
    exact ih _ (by rw [show (if (cPa (Y 11) (Y 10) s k).2 3 k = 0 then cSta (Y 7) pww (cPa (Y 11) (Y 10) s k) k else cPa (Y 11) (Y 10) s k) = cPl (Y 11) (Y 10) (Y 7) pww s k from rfl, cPl_m]; omega) (hP s k hs (by omega)) h
set_option maxRecDepth 100000 in
theorem lp_most {l : Launch} {dd : Nat} {Po : zPo} {K0 : zK} {h0 : List va_E} {Xo : zK → Prop} {Gc : zG → Prop} (ro y : Nat) (ar ay : Nat → Nat) (s : zRs) (Y : Nat → Nat) (wi : Int32) (nm : Nat → Int32) (hdd pcc pww : Nat → Nat) (yf yb : Nat → Int32) (hd : 1 ≤ dd) (hI : cI 1000000 s)
    (hk : zS (l, mX5_workTick, dd, Po, K0, h0, Xo, Gc) 0 0 145 [(0, .ref ro), (1, .int (nI (s.1 1)))] [] [(ro, .inr (4, fRow ar (nF s.1) (.ref y))), (ar 1, .inl (0, 12, .inl (nF (s.2 1)))), (ar 2, .inl (0, 12, .inl (nF (s.2 2)))), (ar 3, .inl (0, 12, .inl (nF (s.2 3)))), (ar 4, .inl (0, 12, .inl (nF (s.2 4)))), (ar 5, .inl (0, 12, .inl (nF (s.2 5)))), (ar 6, .inl (0, 360, .inl (nF (s.2 6)))), (ar 7, .inl (0, 12, .inl (nF (s.2 7)))), (ar 8, .inl (0, 12, .inl (nF (s.2 8)))), (ar 9, .inl (0, 12, .inl (nF (cMo s (s.1 1))))), (ar 10, .inl (0, 100, .inl (nF (s.2 10)))), (y, .inr (9, fYard ay (ysN Y wi))), (ay 1, .inl (0, 12, .inl nm)), (ay 2, .inl (0, 12, .inl (nF hdd))), (ay 3, .inl (0, 12, .inl (nF pcc))), (ay 4, .inl (0, 12, .inl (nF pww))), (ay 5, .inl (0, 64, .inl yf)), (ay 6, .inl (1, 64, .inl yb))]) :
    ∀ (m i : Nat) , i + m = s.1 1 → 1 ≤ i → zS (l, mX5_workTick, dd, Po, K0, h0, Xo, Gc) 0 0 110 [(0, .ref ro), (1, .int (nI i))] [] [(ro, .inr (4, fRow ar (nF s.1) (.ref y))), (ar 1, .inl (0, 12, .inl (nF (s.2 1)))), (ar 2, .inl (0, 12, .inl (nF (s.2 2)))), (ar 3, .inl (0, 12, .inl (nF (s.2 3)))), (ar 4, .inl (0, 12, .inl (nF (s.2 4)))), (ar 5, .inl (0, 12, .inl (nF (s.2 5)))), (ar 6, .inl (0, 360, .inl (nF (s.2 6)))), (ar 7, .inl (0, 12, .inl (nF (s.2 7)))), (ar 8, .inl (0, 12, .inl (nF (s.2 8)))), (ar 9, .inl (0, 12, .inl (nF (cMo s i)))), (ar 10, .inl (0, 100, .inl (nF (s.2 10)))), (y, .inr (9, fYard ay (ysN Y wi))), (ay 1, .inl (0, 12, .inl nm)), (ay 2, .inl (0, 12, .inl (nF hdd))), (ay 3, .inl (0, 12, .inl (nF pcc))), (ay 4, .inl (0, 12, .inl (nF pww))), (ay 5, .inl (0, 64, .inl yf)), (ay 6, .inl (1, 64, .inl yb))] := by
  intro m
  induction m with
  | zero =>
    intro i hi h1
    have h12 := hI.1.2
    have hin : i = s.1 1 := by omega
    subst hin
    refine zs_iload_n dX5_workTick_110 rfl ?_
    refine zs_aload_n dX5_workTick_111 rfl rfl ?_
    refine zs_get 0 dX5_workTick_112 zf_RX5_52 rfl (v := .int (nI (s.1 1))) rfl ?_
    refine zs_icmp_ge (tgt := 145) dX5_workTick_115 (by decide) (fun c_1 => ?_) (fun c_1 => (c_1 (Int32.le_refl _) : False).elim)
    exact hk
  | succ m ih =>
    intro i hi h1
    have h12 := hI.1.2
    have hil : i < s.1 1 := by omega
    have bp := hI.2.1 i (by omega)
    refine zs_iload_n dX5_workTick_110 rfl ?_
    refine zs_aload_n dX5_workTick_111 rfl rfl ?_
    refine zs_get 0 dX5_workTick_112 zf_RX5_52 rfl (v := .int (nI (s.1 1))) rfl ?_
    refine zs_icmp_ge (tgt := 145) dX5_workTick_115 (by decide) (fun c_1 => (nI_ge hil (by omega) c_1 : False).elim) (fun c_1 => ?_)
    refine zs_aload_n dX5_workTick_118 rfl rfl ?_
    refine zs_get 0 dX5_workTick_119 zf_RX5_36 rfl (v := .ref (ar 9)) rfl ?_
    refine zs_iload_n dX5_workTick_122 rfl ?_
    refine zs_aload_n dX5_workTick_123 rfl rfl ?_
    refine zs_get 0 dX5_workTick_124 zf_RX5_36 rfl (v := .ref (ar 9)) rfl ?_
    refine zs_iload_n dX5_workTick_127 rfl ?_
    refine zs_iald 9 dX5_workTick_128 rfl (vp_in_nI (by omega) (by omega)) ?_
    refine zs_as (y := nI (s.2 9 i)) (by rw [nI_c (n := i) (by omega)]; show nI (cMo s i i) = _; rw [cMo_ge s i i (Nat.le_refl i)]) ?_
    refine zs_aload_n dX5_workTick_129 rfl rfl ?_
    refine zs_get 0 dX5_workTick_130 zf_RX5_33 rfl (v := .ref (ar 8)) rfl ?_
    refine zs_iload_n dX5_workTick_133 rfl ?_
    refine zs_iald 8 dX5_workTick_134 rfl (vp_in_nI (by omega) (by omega)) ?_
    refine zs_as (y := nI ((s.2 8) i)) (by rw [nI_c (n := i) (by omega)]; rfl) ?_
    refine zs_mmax dX5_workTick_135 zl_RX5_96 zmmax1 zmath2 zmmax3 (show 1 ≤ dd by omega) (Nat.le_of_ble_eq_true rfl) ?_
    refine zs_as (y := nI (max (s.2 9 i) (s.2 8 i))) (nI_max (by omega) (by omega)) ?_
    refine zs_iast 9 dX5_workTick_138 rfl (vp_in_nI (by omega) (by omega)) ?_
    rw [nI_c (n := i) (by omega), nF_u]
    show zS _ _ _ _ _ _ [(ro, .inr (4, fRow ar (nF s.1) (.ref y))), (ar 1, .inl (0, 12, .inl (nF (s.2 1)))), (ar 2, .inl (0, 12, .inl (nF (s.2 2)))), (ar 3, .inl (0, 12, .inl (nF (s.2 3)))), (ar 4, .inl (0, 12, .inl (nF (s.2 4)))), (ar 5, .inl (0, 12, .inl (nF (s.2 5)))), (ar 6, .inl (0, 360, .inl (nF (s.2 6)))), (ar 7, .inl (0, 12, .inl (nF (s.2 7)))), (ar 8, .inl (0, 12, .inl (nF (s.2 8)))), (ar 9, .inl (0, 12, .inl (nF (un (cMo s i) i (max (s.2 9 i) (s.2 8 i)))))), (ar 10, .inl (0, 100, .inl (nF (s.2 10)))), (y, .inr (9, fYard ay (ysN Y wi))), (ay 1, .inl (0, 12, .inl nm)), (ay 2, .inl (0, 12, .inl (nF hdd))), (ay 3, .inl (0, 12, .inl (nF pcc))), (ay 4, .inl (0, 12, .inl (nF pww))), (ay 5, .inl (0, 64, .inl yf)), (ay 6, .inl (1, 64, .inl yb))]
    refine zs_iinc (v := (nI (i + 1))) (lv' := [(1, .int (nI (i + 1))), (0, .ref ro)]) dX5_workTick_139 rfl (nI_add _ 1) (Nat.le_of_ble_eq_true rfl) rfl ?_
    refine zs_goto (tgt := 110) dX5_workTick_142 (by decide) ?_
    refine zs_lv [1, 0] rfl ?_
    rw [show un (cMo s i) i (max (s.2 9 i) (s.2 8 i)) = cMo s (i + 1) from by simp only [cMo]; rw [if_neg (by omega)]]
    exact ih (i + 1) (by omega) (by omega)
theorem cDn_inv {back spill hold : Nat} {pww : Nat → Nat} {Inv : Nat → zRs → Prop} (hP : ∀ s p, Inv (p + 1) s → p < s.1 1 → Inv p (cPl back spill hold pww s p)) : ∀ (k : Nat) (s : zRs), k ≤ s.1 1 → Inv k s → Inv 0 (cDn back spill hold pww k s)
  | 0, _, _, h => h
  | k + 1, s, hk, h => cDn_inv hP k _ (by rw [cPl_m]; omega) (hP s k h (by omega))
set_option maxRecDepth 100000 in
theorem s_workTick (l : Launch) (dd : Nat) (ro y : Nat) (ar ay : Nat → Nat) (s : zRs) (Y : Nat → Nat) (wi : Int32) (nm : Nat → Int32) (hdd pcc pww : Nat → Nat) (yf yb : Nat → Int32) (hd : 2 ≤ dd) (hY6 : 1 ≤ Y 7 ∧ Y 7 ≤ 20) (hY10 : Y 10 ≤ 99) (hY11 : Y 11 ≤ 99) (hpw : ∀ j, j < 12 → pww j ≤ 99) (Inv : Nat → zRs → Prop) (hI : ∀ k s, Inv k s → cI 1000000 s) (hP : ∀ s p, Inv (p + 1) s → p < s.1 1 → Inv p (cPl (Y 11) (Y 10) (Y 7) pww s p)) (h0i : Inv (s.1 1) (cT0 s)) (hm : 1 ≤ s.1 1 ∧ s.1 1 ≤ 12) : zSp l mX5_workTick dd 0 0 [.ref ro] [(ro, .inr (4, fRow ar (nF s.1) (.ref y))), (ar 1, .inl (0, 12, .inl (nF (s.2 1)))), (ar 2, .inl (0, 12, .inl (nF (s.2 2)))), (ar 3, .inl (0, 12, .inl (nF (s.2 3)))), (ar 4, .inl (0, 12, .inl (nF (s.2 4)))), (ar 5, .inl (0, 12, .inl (nF (s.2 5)))), (ar 6, .inl (0, 360, .inl (nF (s.2 6)))), (ar 7, .inl (0, 12, .inl (nF (s.2 7)))), (ar 8, .inl (0, 12, .inl (nF (s.2 8)))), (ar 9, .inl (0, 12, .inl (nF (s.2 9)))), (ar 10, .inl (0, 100, .inl (nF (s.2 10)))), (y, .inr (9, fYard ay (ysN Y wi))), (ay 1, .inl (0, 12, .inl nm)), (ay 2, .inl (0, 12, .inl (nF hdd))), (ay 3, .inl (0, 12, .inl (nF pcc))), (ay 4, .inl (0, 12, .inl (nF pww))), (ay 5, .inl (0, 64, .inl yf)), (ay 6, .inl (1, 64, .inl yb))] (fun r K' => r = none ∧ K' = kRow ro ar (.ref y) (cTick (Y 11) (Y 10) (Y 7) pww s) ++ kYrd y ay Y wi nm hdd pcc pww yf yb) := by
  refine zSp.of (by decide) (Nat.le_of_ble_eq_true rfl) (fun h0 => ?_)
  show zS _ 0 0 0 [(0, .ref ro)] [] [(ro, .inr (4, fRow ar (nF s.1) (.ref y))), (ar 1, .inl (0, 12, .inl (nF (s.2 1)))), (ar 2, .inl (0, 12, .inl (nF (s.2 2)))), (ar 3, .inl (0, 12, .inl (nF (s.2 3)))), (ar 4, .inl (0, 12, .inl (nF (s.2 4)))), (ar 5, .inl (0, 12, .inl (nF (s.2 5)))), (ar 6, .inl (0, 360, .inl (nF (s.2 6)))), (ar 7, .inl (0, 12, .inl (nF (s.2 7)))), (ar 8, .inl (0, 12, .inl (nF (s.2 8)))), (ar 9, .inl (0, 12, .inl (nF (s.2 9)))), (ar 10, .inl (0, 100, .inl (nF (s.2 10)))), (y, .inr (9, fYard ay (ysN Y wi))), (ay 1, .inl (0, 12, .inl nm)), (ay 2, .inl (0, 12, .inl (nF hdd))), (ay 3, .inl (0, 12, .inl (nF pcc))), (ay 4, .inl (0, 12, .inl (nF pww))), (ay 5, .inl (0, 64, .inl yf)), (ay 6, .inl (1, 64, .inl yb))]
  have b0 := hI _ _ h0i
  have b12 : s.1 12 + 1 ≤ 1000000 := b0.2.2.2.1
  refine zs_aload_n dX5_workTick_0 rfl rfl ?_
  refine zs_dup dX5_workTick_1 rfl ?_
  refine zs_get 0 dX5_workTick_2 zf_RX5_62 rfl (v := .int (nI (s.1 12))) rfl ?_
  refine zs_iconst (v := nI 1) dX5_workTick_5 (by decide) ?_
  refine zs_iadd dX5_workTick_6 ?_
  refine zs_as (y := nI ((s.1 12) + 1)) (nI_add _ _) ?_
  refine zs_put 0 dX5_workTick_7 zf_RX5_62 rfl (Nat.le_of_ble_eq_true rfl) (zPv_i _) ?_
  show zS _ _ _ _ _ _ [(ro, .inr (4, fRow ar (nF (un s.1 12 ((s.1 12) + 1))) (.ref y))), (ar 1, .inl (0, 12, .inl (nF (s.2 1)))), (ar 2, .inl (0, 12, .inl (nF (s.2 2)))), (ar 3, .inl (0, 12, .inl (nF (s.2 3)))), (ar 4, .inl (0, 12, .inl (nF (s.2 4)))), (ar 5, .inl (0, 12, .inl (nF (s.2 5)))), (ar 6, .inl (0, 360, .inl (nF (s.2 6)))), (ar 7, .inl (0, 12, .inl (nF (s.2 7)))), (ar 8, .inl (0, 12, .inl (nF (s.2 8)))), (ar 9, .inl (0, 12, .inl (nF (s.2 9)))), (ar 10, .inl (0, 100, .inl (nF (s.2 10)))), (y, .inr (9, fYard ay (ysN Y wi))), (ay 1, .inl (0, 12, .inl nm)), (ay 2, .inl (0, 12, .inl (nF hdd))), (ay 3, .inl (0, 12, .inl (nF pcc))), (ay 4, .inl (0, 12, .inl (nF pww))), (ay 5, .inl (0, 64, .inl yf)), (ay 6, .inl (1, 64, .inl yb))]
  refine zs_aload_n dX5_workTick_10 rfl rfl ?_
  refine zs_dup dX5_workTick_11 rfl ?_
  refine zs_get 0 dX5_workTick_12 zf_RX5_68 rfl (v := .int (nI (s.1 13))) rfl ?_
  refine zs_aload_n dX5_workTick_15 rfl rfl ?_
  refine zs_get 0 dX5_workTick_16 zf_RX5_39 rfl (v := .ref (ar 10)) rfl ?_
  refine zs_aload_n dX5_workTick_19 rfl rfl ?_
  refine zs_get 0 dX5_workTick_20 zf_RX5_62 rfl (v := .int (nI ((s.1 12) + 1))) rfl ?_
  refine zs_bipush (v := nI 100) dX5_workTick_23 (by decide) ?_
  refine zs_irem dX5_workTick_25 (fun hz => by rw [show (0 : Int32) = nI 0 from rfl, nI_eq' (by omega) (by omega)] at hz; omega) ?_
  refine zs_as (y := nI (((s.1 12) + 1) % 100)) (nI_rem (by omega) (by omega) (by omega)) ?_
  refine zs_iald 10 dX5_workTick_26 rfl (vp_in_nI (by omega) (by omega)) ?_
  refine zs_as (y := nI ((s.2 10) (((s.1 12) + 1) % 100))) (by rw [nI_c (n := ((s.1 12) + 1) % 100) (by omega)]; rfl) ?_
  refine zs_iadd dX5_workTick_27 ?_
  refine zs_as (y := nI ((s.1 13) + ((s.2 10) (((s.1 12) + 1) % 100)))) (nI_add _ _) ?_
  refine zs_put 0 dX5_workTick_28 zf_RX5_68 rfl (Nat.le_of_ble_eq_true rfl) (zPv_i _) ?_
  show zS _ _ _ _ _ _ [(ro, .inr (4, fRow ar (nF (un (un s.1 12 ((s.1 12) + 1)) 13 ((s.1 13) + ((s.2 10) (((s.1 12) + 1) % 100))))) (.ref y))), (ar 1, .inl (0, 12, .inl (nF (s.2 1)))), (ar 2, .inl (0, 12, .inl (nF (s.2 2)))), (ar 3, .inl (0, 12, .inl (nF (s.2 3)))), (ar 4, .inl (0, 12, .inl (nF (s.2 4)))), (ar 5, .inl (0, 12, .inl (nF (s.2 5)))), (ar 6, .inl (0, 360, .inl (nF (s.2 6)))), (ar 7, .inl (0, 12, .inl (nF (s.2 7)))), (ar 8, .inl (0, 12, .inl (nF (s.2 8)))), (ar 9, .inl (0, 12, .inl (nF (s.2 9)))), (ar 10, .inl (0, 100, .inl (nF (s.2 10)))), (y, .inr (9, fYard ay (ysN Y wi))), (ay 1, .inl (0, 12, .inl nm)), (ay 2, .inl (0, 12, .inl (nF hdd))), (ay 3, .inl (0, 12, .inl (nF pcc))), (ay 4, .inl (0, 12, .inl (nF pww))), (ay 5, .inl (0, 64, .inl yf)), (ay 6, .inl (1, 64, .inl yb))]
  refine zs_aload_n dX5_workTick_31 rfl rfl ?_
  refine zs_get 0 dX5_workTick_32 zf_RX5_39 rfl (v := .ref (ar 10)) rfl ?_
  refine zs_aload_n dX5_workTick_35 rfl rfl ?_
  refine zs_get 0 dX5_workTick_36 zf_RX5_62 rfl (v := .int (nI ((s.1 12) + 1))) rfl ?_
  refine zs_bipush (v := nI 100) dX5_workTick_39 (by decide) ?_
  refine zs_irem dX5_workTick_41 (fun hz => by rw [show (0 : Int32) = nI 0 from rfl, nI_eq' (by omega) (by omega)] at hz; omega) ?_
  refine zs_as (y := nI (((s.1 12) + 1) % 100)) (nI_rem (by omega) (by omega) (by omega)) ?_
  refine zs_iconst (v := nI 0) dX5_workTick_42 (by decide) ?_
  refine zs_iast 10 dX5_workTick_43 rfl (vp_in_nI (by omega) (by omega)) ?_
  rw [nI_c (n := ((s.1 12) + 1) % 100) (by omega), nF_u]
  show zS _ _ _ _ _ _ [(ro, .inr (4, fRow ar (nF (un (un s.1 12 ((s.1 12) + 1)) 13 ((s.1 13) + ((s.2 10) (((s.1 12) + 1) % 100))))) (.ref y))), (ar 1, .inl (0, 12, .inl (nF (s.2 1)))), (ar 2, .inl (0, 12, .inl (nF (s.2 2)))), (ar 3, .inl (0, 12, .inl (nF (s.2 3)))), (ar 4, .inl (0, 12, .inl (nF (s.2 4)))), (ar 5, .inl (0, 12, .inl (nF (s.2 5)))), (ar 6, .inl (0, 360, .inl (nF (s.2 6)))), (ar 7, .inl (0, 12, .inl (nF (s.2 7)))), (ar 8, .inl (0, 12, .inl (nF (s.2 8)))), (ar 9, .inl (0, 12, .inl (nF (s.2 9)))), (ar 10, .inl (0, 100, .inl (nF (un (s.2 10) (((s.1 12) + 1) % 100) 0)))), (y, .inr (9, fYard ay (ysN Y wi))), (ay 1, .inl (0, 12, .inl nm)), (ay 2, .inl (0, 12, .inl (nF hdd))), (ay 3, .inl (0, 12, .inl (nF pcc))), (ay 4, .inl (0, 12, .inl (nF pww))), (ay 5, .inl (0, 64, .inl yf)), (ay 6, .inl (1, 64, .inl yb))]
  refine zs_aload_n dX5_workTick_44 rfl rfl ?_
  refine zs_get 0 dX5_workTick_45 zf_RX5_52 rfl (v := .int (nI (s.1 1))) rfl ?_
  refine zs_iconst (v := nI 1) dX5_workTick_48 (by decide) ?_
  refine zs_isub dX5_workTick_49 ?_
  refine zs_as (y := nI (s.1 1) - 1) rfl ?_
  refine zs_istore_n (lv' := [(1, .int (nI (s.1 1) - 1)), (0, .ref ro)]) dX5_workTick_50 (Nat.le_of_ble_eq_true rfl) rfl ?_
  refine zs_lv [1, 0] rfl ?_
  refine lp_tick ro y ar ay Y wi nm hdd pcc pww yf yb hd hY6 hY10 hY11 hpw Inv hI hP (s.1 1) (cT0 s) (Nat.le_refl _) h0i ?_
  refine zs_iconst (v := nI 1) dX5_workTick_108 (by decide) ?_
  refine zs_istore_n (lv' := [(1, .int (nI 1)), (0, .ref ro)]) dX5_workTick_109 (Nat.le_of_ble_eq_true rfl) rfl ?_
  refine zs_lv [1, 0] rfl ?_
  refine lp_most ro y ar ay (cDn (Y 11) (Y 10) (Y 7) pww (s.1 1) (cT0 s)) Y wi nm hdd pcc pww yf yb (by omega) (hI _ _ (cDn_inv hP (s.1 1) (cT0 s) (Nat.le_refl _) h0i)) ?_ (((cDn (Y 11) (Y 10) (Y 7) pww (s.1 1) (cT0 s))).1 1 - 1) 1 (by have := (hI _ _ (cDn_inv hP (s.1 1) (cT0 s) (Nat.le_refl _) h0i)).1.1; omega) (Nat.le_refl _)
  exact zs_vret dX5_workTick_145 rfl ⟨rfl, rfl⟩
