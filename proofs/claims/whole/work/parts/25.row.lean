/-! ===== PailRow.Row ===== -/
def nF (f : Nat → Nat) : Nat → Int32 := fun k => nI (f k)
def un (f : Nat → Nat) (k x : Nat) : Nat → Nat := fun j => if j = k then x else f j
theorem nF_u (f : Nat → Nat) (k x : Nat) : upd (nF f) k (nI x) = nF (un f k x) := by
  funext j
  simp only [upd, nF, un]
  split <;> rfl
def uu (N : Nat → Nat → Nat) (j : Nat) (f : Nat → Nat) : Nat → Nat → Nat := fun k => if k = j then f else N k
def ysN (Y : Nat → Nat) (wi : Int32) : Nat → Int32 := upd (nF Y) 13 wi
theorem nI_min {h w : Nat} (hh : h < 2147483648) (hw : w < 2147483648) : (if nI w < nI h then nI w else nI h) = nI (min h w) := by
  simp only [nI_lt' hw hh]
  by_cases q : w < h
  · rw [if_pos q, Nat.min_eq_right (Nat.le_of_lt q)]
  · rw [if_neg q, Nat.min_eq_left (Nat.not_lt.mp q)]
theorem nI_max {x y : Nat} (hx : x < 2147483648) (hy : y < 2147483648) : (if nI x < nI y then nI y else nI x) = nI (max x y) := by
  simp only [nI_lt' hx hy]
  by_cases q : x < y
  · rw [if_pos q, Nat.max_eq_right (Nat.le_of_lt q)]
  · rw [if_neg q, Nat.max_eq_left (Nat.not_lt.mp q)]
def fRow (ar : Nat → Nat) (sc : Nat → Int32) (yv : Value) : List Value := [yv, .int (sc 1), .ref (ar 1), .ref (ar 2), .ref (ar 3), .ref (ar 4), .ref (ar 5), .ref (ar 6), .ref (ar 7), .ref (ar 8), .ref (ar 9), .ref (ar 10), .int (sc 12), .int (sc 13), .int (sc 14), .int (sc 15), .int (sc 16), .int (sc 17), .int (sc 18)]
/-- a row's numbers: S by field, N by array and place -/
abbrev zRs : Type := (Nat → Nat) × (Nat → Nat → Nat)
abbrev kRow (r : Nat) (ar : Nat → Nat) (yv : Value) (s : zRs) : zK := [(r, .inr (4, fRow ar (nF s.1) yv)), (ar 1, .inl (0, 12, .inl (nF (s.2 1)))), (ar 2, .inl (0, 12, .inl (nF (s.2 2)))), (ar 3, .inl (0, 12, .inl (nF (s.2 3)))), (ar 4, .inl (0, 12, .inl (nF (s.2 4)))), (ar 5, .inl (0, 12, .inl (nF (s.2 5)))), (ar 6, .inl (0, 360, .inl (nF (s.2 6)))), (ar 7, .inl (0, 12, .inl (nF (s.2 7)))), (ar 8, .inl (0, 12, .inl (nF (s.2 8)))), (ar 9, .inl (0, 12, .inl (nF (s.2 9)))), (ar 10, .inl (0, 100, .inl (nF (s.2 10))))]
abbrev kYrd (y : Nat) (ay : Nat → Nat) (Y : Nat → Nat) (wi : Int32) (nm : Nat → Int32) (hdd pcc pww : Nat → Nat) (yf yb : Nat → Int32) : zK := kYard y ay (ysN Y wi) nm (nF hdd) (nF pcc) (nF pww) yf yb
/-- what bounds a row's numbers -/
def cI (B : Nat) (s : zRs) : Prop := (1 ≤ s.1 1 ∧ s.1 1 ≤ 12) ∧ (∀ p, p < 12 → s.2 1 p < 12 ∧ s.2 2 p ≤ 10000 ∧ s.2 3 p ≤ 20000 ∧ s.2 4 p ≤ 20 ∧ s.2 5 p ≤ B ∧ s.2 7 p < 30 ∧ s.2 8 p ≤ 30 ∧ s.2 9 p ≤ 30) ∧ (∀ q, q < 360 → s.2 6 q ≤ 20) ∧ s.1 12 ≤ 1000000 ∧ s.1 13 ≤ 1000000 ∧ s.1 14 ≤ 1000000
def cFin (back spill : Nat) (s : zRs) (p : Nat) : zRs :=
  if p = s.1 1 - 1 then (un (un s.1 15 (s.1 15 + s.2 4 p)) 18 (s.1 18 + 1), uu (uu s.2 5 (un (s.2 5) p (s.2 5 p + 1))) 10 (un (s.2 10) ((s.1 12 + back) % 100) (s.2 10 ((s.1 12 + back) % 100) + 1)))
  else if 30 ≤ s.2 8 (p + 1) then (un s.1 17 (s.1 17 + s.2 4 p * spill / 100), uu s.2 5 (un (s.2 5) p (s.2 5 p + 1)))
  else (un s.1 17 (s.1 17 + s.2 4 p * spill / 100), uu (uu (uu s.2 5 (un (s.2 5) p (s.2 5 p + 1))) 6 (un (s.2 6) ((p + 1) * 30 + (s.2 7 (p + 1) + s.2 8 (p + 1)) % 30) (s.2 4 p - s.2 4 p * spill / 100))) 8 (un (s.2 8) (p + 1) (s.2 8 (p + 1) + 1)))
/-- how long from now, by what is done -/
def cLf (pww : Nat → Nat) (s : zRs) (p : Nat) : Nat := if s.2 5 p < 10 * pww (s.2 1 p) then s.2 2 p else 2 * s.2 2 p
def cSta (hold : Nat) (pww : Nat → Nat) (s : zRs) (p : Nat) : zRs :=
  if p = 0 then (if s.1 13 = 0 then s else if s.1 14 = 0 then s else
    (un (un (un s.1 13 (s.1 13 - 1)) 14 (s.1 14 - min hold (s.1 14))) 16 (s.1 16 + min hold (s.1 14)), uu (uu s.2 4 (un (s.2 4) 0 (min hold (s.1 14)))) 3 (un (s.2 3) p (cLf pww s p))))
  else if s.2 8 p = 0 then s else
    (s.1, uu (uu (uu (uu s.2 4 (un (s.2 4) p (s.2 6 (p * 30 + s.2 7 p)))) 7 (un (s.2 7) p ((s.2 7 p + 1) % 30))) 8 (un (s.2 8) p (s.2 8 p - 1))) 3 (un (s.2 3) p (cLf pww s p)))
theorem dX5_finish_0 : decode cX5_finish 0 = .ok (.aload_n 0, 1) := by decide +kernel
theorem dX5_finish_1 : decode cX5_finish 1 = .ok (.getfield 24, 3) := by decide +kernel
theorem dX5_finish_4 : decode cX5_finish 4 = .ok (.iload_n 1, 1) := by decide +kernel
theorem dX5_finish_5 : decode cX5_finish 5 = .ok (.dup2, 1) := by decide +kernel
theorem dX5_finish_6 : decode cX5_finish 6 = .ok (.iaload, 1) := by decide +kernel
theorem dX5_finish_7 : decode cX5_finish 7 = .ok (.iconst 1, 1) := by decide +kernel
theorem dX5_finish_8 : decode cX5_finish 8 = .ok (.iadd, 1) := by decide +kernel
theorem dX5_finish_9 : decode cX5_finish 9 = .ok (.iastore, 1) := by decide +kernel
theorem dX5_finish_10 : decode cX5_finish 10 = .ok (.iload_n 1, 1) := by decide +kernel
theorem dX5_finish_11 : decode cX5_finish 11 = .ok (.aload_n 0, 1) := by decide +kernel
theorem dX5_finish_12 : decode cX5_finish 12 = .ok (.getfield 52, 3) := by decide +kernel
theorem dX5_finish_15 : decode cX5_finish 15 = .ok (.iconst 1, 1) := by decide +kernel
theorem dX5_finish_16 : decode cX5_finish 16 = .ok (.isub, 1) := by decide +kernel
theorem dX5_finish_17 : decode cX5_finish 17 = .ok (.if_icmp .ne 53, 3) := by decide +kernel
theorem dX5_finish_20 : decode cX5_finish 20 = .ok (.aload_n 0, 1) := by decide +kernel
theorem dX5_finish_21 : decode cX5_finish 21 = .ok (.dup, 1) := by decide +kernel
theorem dX5_finish_22 : decode cX5_finish 22 = .ok (.getfield 74, 3) := by decide +kernel
theorem dX5_finish_25 : decode cX5_finish 25 = .ok (.aload_n 0, 1) := by decide +kernel
theorem dX5_finish_26 : decode cX5_finish 26 = .ok (.getfield 21, 3) := by decide +kernel
theorem dX5_finish_29 : decode cX5_finish 29 = .ok (.iload_n 1, 1) := by decide +kernel
theorem dX5_finish_30 : decode cX5_finish 30 = .ok (.iaload, 1) := by decide +kernel
theorem dX5_finish_31 : decode cX5_finish 31 = .ok (.iadd, 1) := by decide +kernel
theorem dX5_finish_32 : decode cX5_finish 32 = .ok (.putfield 74, 3) := by decide +kernel
theorem dX5_finish_35 : decode cX5_finish 35 = .ok (.aload_n 0, 1) := by decide +kernel
theorem dX5_finish_36 : decode cX5_finish 36 = .ok (.dup, 1) := by decide +kernel
theorem dX5_finish_37 : decode cX5_finish 37 = .ok (.getfield 83, 3) := by decide +kernel
theorem dX5_finish_40 : decode cX5_finish 40 = .ok (.iconst 1, 1) := by decide +kernel
theorem dX5_finish_41 : decode cX5_finish 41 = .ok (.iadd, 1) := by decide +kernel
theorem dX5_finish_42 : decode cX5_finish 42 = .ok (.putfield 83, 3) := by decide +kernel
theorem dX5_finish_45 : decode cX5_finish 45 = .ok (.aload_n 0, 1) := by decide +kernel
theorem dX5_finish_46 : decode cX5_finish 46 = .ok (.getfield 39, 3) := by decide +kernel
theorem dX5_finish_49 : decode cX5_finish 49 = .ok (.aload_n 0, 1) := by decide +kernel
theorem dX5_finish_50 : decode cX5_finish 50 = .ok (.getfield 62, 3) := by decide +kernel
theorem dX5_finish_53 : decode cX5_finish 53 = .ok (.aload_n 0, 1) := by decide +kernel
theorem dX5_finish_54 : decode cX5_finish 54 = .ok (.getfield 42, 3) := by decide +kernel
theorem dX5_finish_57 : decode cX5_finish 57 = .ok (.getfield 99, 3) := by decide +kernel
theorem dX5_finish_60 : decode cX5_finish 60 = .ok (.iadd, 1) := by decide +kernel
theorem dX5_finish_61 : decode cX5_finish 61 = .ok (.bipush 100, 2) := by decide +kernel
theorem dX5_finish_63 : decode cX5_finish 63 = .ok (.irem, 1) := by decide +kernel
theorem dX5_finish_64 : decode cX5_finish 64 = .ok (.dup2, 1) := by decide +kernel
theorem dX5_finish_65 : decode cX5_finish 65 = .ok (.iaload, 1) := by decide +kernel
theorem dX5_finish_66 : decode cX5_finish 66 = .ok (.iconst 1, 1) := by decide +kernel
theorem dX5_finish_67 : decode cX5_finish 67 = .ok (.iadd, 1) := by decide +kernel
theorem dX5_finish_68 : decode cX5_finish 68 = .ok (.iastore, 1) := by decide +kernel
theorem dX5_finish_69 : decode cX5_finish 69 = .ok (.return_, 1) := by decide +kernel
theorem dX5_finish_70 : decode cX5_finish 70 = .ok (.aload_n 0, 1) := by decide +kernel
theorem dX5_finish_71 : decode cX5_finish 71 = .ok (.getfield 21, 3) := by decide +kernel
theorem dX5_finish_74 : decode cX5_finish 74 = .ok (.iload_n 1, 1) := by decide +kernel
theorem dX5_finish_75 : decode cX5_finish 75 = .ok (.iaload, 1) := by decide +kernel
theorem dX5_finish_76 : decode cX5_finish 76 = .ok (.aload_n 0, 1) := by decide +kernel
theorem dX5_finish_77 : decode cX5_finish 77 = .ok (.getfield 42, 3) := by decide +kernel
theorem dX5_finish_80 : decode cX5_finish 80 = .ok (.getfield 102, 3) := by decide +kernel
theorem dX5_finish_83 : decode cX5_finish 83 = .ok (.imul, 1) := by decide +kernel
theorem dX5_finish_84 : decode cX5_finish 84 = .ok (.bipush 100, 2) := by decide +kernel
theorem dX5_finish_86 : decode cX5_finish 86 = .ok (.idiv, 1) := by decide +kernel
theorem dX5_finish_87 : decode cX5_finish 87 = .ok (.istore_n 2, 1) := by decide +kernel
theorem dX5_finish_88 : decode cX5_finish 88 = .ok (.aload_n 0, 1) := by decide +kernel
theorem dX5_finish_89 : decode cX5_finish 89 = .ok (.dup, 1) := by decide +kernel
theorem dX5_finish_90 : decode cX5_finish 90 = .ok (.getfield 80, 3) := by decide +kernel
theorem dX5_finish_93 : decode cX5_finish 93 = .ok (.iload_n 2, 1) := by decide +kernel
theorem dX5_finish_94 : decode cX5_finish 94 = .ok (.iadd, 1) := by decide +kernel
theorem dX5_finish_95 : decode cX5_finish 95 = .ok (.putfield 80, 3) := by decide +kernel
theorem dX5_finish_98 : decode cX5_finish 98 = .ok (.aload_n 0, 1) := by decide +kernel
theorem dX5_finish_99 : decode cX5_finish 99 = .ok (.getfield 33, 3) := by decide +kernel
theorem dX5_finish_102 : decode cX5_finish 102 = .ok (.iload_n 1, 1) := by decide +kernel
theorem dX5_finish_103 : decode cX5_finish 103 = .ok (.iconst 1, 1) := by decide +kernel
theorem dX5_finish_104 : decode cX5_finish 104 = .ok (.iadd, 1) := by decide +kernel
theorem dX5_finish_105 : decode cX5_finish 105 = .ok (.iaload, 1) := by decide +kernel
theorem dX5_finish_106 : decode cX5_finish 106 = .ok (.bipush 30, 2) := by decide +kernel
theorem dX5_finish_108 : decode cX5_finish 108 = .ok (.if_icmp .ge 57, 3) := by decide +kernel
theorem dX5_finish_111 : decode cX5_finish 111 = .ok (.aload_n 0, 1) := by decide +kernel
theorem dX5_finish_112 : decode cX5_finish 112 = .ok (.getfield 30, 3) := by decide +kernel
theorem dX5_finish_115 : decode cX5_finish 115 = .ok (.iload_n 1, 1) := by decide +kernel
theorem dX5_finish_116 : decode cX5_finish 116 = .ok (.iconst 1, 1) := by decide +kernel
theorem dX5_finish_117 : decode cX5_finish 117 = .ok (.iadd, 1) := by decide +kernel
theorem dX5_finish_118 : decode cX5_finish 118 = .ok (.iaload, 1) := by decide +kernel
theorem dX5_finish_119 : decode cX5_finish 119 = .ok (.aload_n 0, 1) := by decide +kernel
theorem dX5_finish_120 : decode cX5_finish 120 = .ok (.getfield 33, 3) := by decide +kernel
theorem dX5_finish_123 : decode cX5_finish 123 = .ok (.iload_n 1, 1) := by decide +kernel
theorem dX5_finish_124 : decode cX5_finish 124 = .ok (.iconst 1, 1) := by decide +kernel
theorem dX5_finish_125 : decode cX5_finish 125 = .ok (.iadd, 1) := by decide +kernel
theorem dX5_finish_126 : decode cX5_finish 126 = .ok (.iaload, 1) := by decide +kernel
theorem dX5_finish_127 : decode cX5_finish 127 = .ok (.iadd, 1) := by decide +kernel
theorem dX5_finish_128 : decode cX5_finish 128 = .ok (.bipush 30, 2) := by decide +kernel
theorem dX5_finish_130 : decode cX5_finish 130 = .ok (.irem, 1) := by decide +kernel
theorem dX5_finish_131 : decode cX5_finish 131 = .ok (.istore_n 3, 1) := by decide +kernel
theorem dX5_finish_132 : decode cX5_finish 132 = .ok (.aload_n 0, 1) := by decide +kernel
theorem dX5_finish_133 : decode cX5_finish 133 = .ok (.getfield 27, 3) := by decide +kernel
theorem dX5_finish_136 : decode cX5_finish 136 = .ok (.iload_n 1, 1) := by decide +kernel
theorem dX5_finish_137 : decode cX5_finish 137 = .ok (.iconst 1, 1) := by decide +kernel
theorem dX5_finish_138 : decode cX5_finish 138 = .ok (.iadd, 1) := by decide +kernel
theorem dX5_finish_139 : decode cX5_finish 139 = .ok (.bipush 30, 2) := by decide +kernel
theorem dX5_finish_141 : decode cX5_finish 141 = .ok (.imul, 1) := by decide +kernel
theorem dX5_finish_142 : decode cX5_finish 142 = .ok (.iload_n 3, 1) := by decide +kernel
theorem dX5_finish_143 : decode cX5_finish 143 = .ok (.iadd, 1) := by decide +kernel
theorem dX5_finish_144 : decode cX5_finish 144 = .ok (.aload_n 0, 1) := by decide +kernel
theorem dX5_finish_145 : decode cX5_finish 145 = .ok (.getfield 21, 3) := by decide +kernel
theorem dX5_finish_148 : decode cX5_finish 148 = .ok (.iload_n 1, 1) := by decide +kernel
theorem dX5_finish_149 : decode cX5_finish 149 = .ok (.iaload, 1) := by decide +kernel
theorem dX5_finish_150 : decode cX5_finish 150 = .ok (.iload_n 2, 1) := by decide +kernel
theorem dX5_finish_151 : decode cX5_finish 151 = .ok (.isub, 1) := by decide +kernel
theorem dX5_finish_152 : decode cX5_finish 152 = .ok (.iastore, 1) := by decide +kernel
theorem dX5_finish_153 : decode cX5_finish 153 = .ok (.aload_n 0, 1) := by decide +kernel
theorem dX5_finish_154 : decode cX5_finish 154 = .ok (.getfield 33, 3) := by decide +kernel
theorem dX5_finish_157 : decode cX5_finish 157 = .ok (.iload_n 1, 1) := by decide +kernel
theorem dX5_finish_158 : decode cX5_finish 158 = .ok (.iconst 1, 1) := by decide +kernel
theorem dX5_finish_159 : decode cX5_finish 159 = .ok (.iadd, 1) := by decide +kernel
theorem dX5_finish_160 : decode cX5_finish 160 = .ok (.dup2, 1) := by decide +kernel
theorem dX5_finish_161 : decode cX5_finish 161 = .ok (.iaload, 1) := by decide +kernel
theorem dX5_finish_162 : decode cX5_finish 162 = .ok (.iconst 1, 1) := by decide +kernel
theorem dX5_finish_163 : decode cX5_finish 163 = .ok (.iadd, 1) := by decide +kernel
theorem dX5_finish_164 : decode cX5_finish 164 = .ok (.iastore, 1) := by decide +kernel
theorem dX5_finish_165 : decode cX5_finish 165 = .ok (.return_, 1) := by decide +kernel
set_option maxRecDepth 100000 in
theorem s_rowFin (l : Launch) (dd : Nat) (ro y : Nat) (ar ay : Nat → Nat) (s : zRs) (Y : Nat → Nat) (wi : Int32) (nm : Nat → Int32) (hdd pcc pww : Nat → Nat) (yf yb : Nat → Int32) (p : Nat) (hp : p < s.1 1) (hY6 : 1 ≤ Y 7 ∧ Y 7 ≤ 20) (hY10 : Y 10 ≤ 99) (hY11 : Y 11 ≤ 99) (hpw : ∀ j, j < 12 → pww j ≤ 99) (B : Nat) (hB : B ≤ 100000000) (hI : cI B s) : zSp l mX5_finish dd 0 0 [.ref ro, .int (nI p)] [(ro, .inr (4, fRow ar (nF s.1) (.ref y))), (ar 1, .inl (0, 12, .inl (nF (s.2 1)))), (ar 2, .inl (0, 12, .inl (nF (s.2 2)))), (ar 3, .inl (0, 12, .inl (nF (s.2 3)))), (ar 4, .inl (0, 12, .inl (nF (s.2 4)))), (ar 5, .inl (0, 12, .inl (nF (s.2 5)))), (ar 6, .inl (0, 360, .inl (nF (s.2 6)))), (ar 7, .inl (0, 12, .inl (nF (s.2 7)))), (ar 8, .inl (0, 12, .inl (nF (s.2 8)))), (ar 9, .inl (0, 12, .inl (nF (s.2 9)))), (ar 10, .inl (0, 100, .inl (nF (s.2 10)))), (y, .inr (9, fYard ay (ysN Y wi))), (ay 1, .inl (0, 12, .inl nm)), (ay 2, .inl (0, 12, .inl (nF hdd))), (ay 3, .inl (0, 12, .inl (nF pcc))), (ay 4, .inl (0, 12, .inl (nF pww))), (ay 5, .inl (0, 64, .inl yf)), (ay 6, .inl (1, 64, .inl yb))] (fun r K' => r = none ∧ K' = kRow ro ar (.ref y) (cFin (Y 11) (Y 10) s p) ++ kYrd y ay Y wi nm hdd pcc pww yf yb) := by
  refine zSp.of (by decide) (Nat.le_of_ble_eq_true rfl) (fun h0 => ?_)
  show zS _ 0 0 0 [(0, .ref ro), (1, .int (nI p))] [] [(ro, .inr (4, fRow ar (nF s.1) (.ref y))), (ar 1, .inl (0, 12, .inl (nF (s.2 1)))), (ar 2, .inl (0, 12, .inl (nF (s.2 2)))), (ar 3, .inl (0, 12, .inl (nF (s.2 3)))), (ar 4, .inl (0, 12, .inl (nF (s.2 4)))), (ar 5, .inl (0, 12, .inl (nF (s.2 5)))), (ar 6, .inl (0, 360, .inl (nF (s.2 6)))), (ar 7, .inl (0, 12, .inl (nF (s.2 7)))), (ar 8, .inl (0, 12, .inl (nF (s.2 8)))), (ar 9, .inl (0, 12, .inl (nF (s.2 9)))), (ar 10, .inl (0, 100, .inl (nF (s.2 10)))), (y, .inr (9, fYard ay (ysN Y wi))), (ay 1, .inl (0, 12, .inl nm)), (ay 2, .inl (0, 12, .inl (nF hdd))), (ay 3, .inl (0, 12, .inl (nF pcc))), (ay 4, .inl (0, 12, .inl (nF pww))), (ay 5, .inl (0, 64, .inl yf)), (ay 6, .inl (1, 64, .inl yb))]
  obtain ⟨⟨i1, i2⟩, ip, iq, j12, j13, j14⟩ := hI
  have bp := ip p (by omega)
  have hmul : s.2 4 p * Y 10 ≤ 20 * 99 := Nat.mul_le_mul (by omega) (by omega)
  have hv : s.2 4 p * Y 10 / 100 ≤ s.2 4 p := by
    have : s.2 4 p * Y 10 ≤ s.2 4 p * 100 := Nat.mul_le_mul_left _ (by omega)
    omega
  refine zs_aload_n dX5_finish_0 rfl rfl ?_
  refine zs_get 0 dX5_finish_1 zf_RX5_24 rfl (v := .ref (ar 5)) rfl ?_
  refine zs_iload_n dX5_finish_4 rfl ?_
  refine zs_dup2 dX5_finish_5 rfl rfl ?_
  refine zs_iald 5 dX5_finish_6 rfl (vp_in_nI (by omega) (by omega)) ?_
  refine zs_as (y := nI ((s.2 5) p)) (by rw [nI_c (n := p) (by omega)]; rfl) ?_
  refine zs_iconst (v := nI 1) dX5_finish_7 (by decide) ?_
  refine zs_iadd dX5_finish_8 ?_
  refine zs_as (y := nI (((s.2 5) p) + 1)) (nI_add _ _) ?_
  refine zs_iast 5 dX5_finish_9 rfl (vp_in_nI (by omega) (by omega)) ?_
  rw [nI_c (n := p) (by omega), nF_u]
  show zS _ _ _ _ _ _ [(ro, .inr (4, fRow ar (nF s.1) (.ref y))), (ar 1, .inl (0, 12, .inl (nF (s.2 1)))), (ar 2, .inl (0, 12, .inl (nF (s.2 2)))), (ar 3, .inl (0, 12, .inl (nF (s.2 3)))), (ar 4, .inl (0, 12, .inl (nF (s.2 4)))), (ar 5, .inl (0, 12, .inl (nF (un (s.2 5) p (((s.2 5) p) + 1))))), (ar 6, .inl (0, 360, .inl (nF (s.2 6)))), (ar 7, .inl (0, 12, .inl (nF (s.2 7)))), (ar 8, .inl (0, 12, .inl (nF (s.2 8)))), (ar 9, .inl (0, 12, .inl (nF (s.2 9)))), (ar 10, .inl (0, 100, .inl (nF (s.2 10)))), (y, .inr (9, fYard ay (ysN Y wi))), (ay 1, .inl (0, 12, .inl nm)), (ay 2, .inl (0, 12, .inl (nF hdd))), (ay 3, .inl (0, 12, .inl (nF pcc))), (ay 4, .inl (0, 12, .inl (nF pww))), (ay 5, .inl (0, 64, .inl yf)), (ay 6, .inl (1, 64, .inl yb))]
  refine zs_iload_n dX5_finish_10 rfl ?_
  refine zs_aload_n dX5_finish_11 rfl rfl ?_
  refine zs_get 0 dX5_finish_12 zf_RX5_52 rfl (v := .int (nI (s.1 1))) rfl ?_
  refine zs_iconst (v := nI 1) dX5_finish_15 (by decide) ?_
  refine zs_isub dX5_finish_16 ?_
  refine zs_as (y := nI ((s.1 1) - 1)) (nI_sub (by omega)) ?_
  refine zs_icmp_ne (tgt := 70) dX5_finish_17 (by decide) (fun c_1 => ?_) (fun c_1 => ?_)
  · have c_1 : ¬ (p = ((s.1 1) - 1)) := by have hc := c_1; rw [nI_eq' (by omega) (by omega)] at hc; exact hc
    have bp1 := ip (p + 1) (by omega)
    refine zs_aload_n dX5_finish_70 rfl rfl ?_
    refine zs_get 0 dX5_finish_71 zf_RX5_21 rfl (v := .ref (ar 4)) rfl ?_
    refine zs_iload_n dX5_finish_74 rfl ?_
    refine zs_iald 4 dX5_finish_75 rfl (vp_in_nI (by omega) (by omega)) ?_
    refine zs_as (y := nI ((s.2 4) p)) (by rw [nI_c (n := p) (by omega)]; rfl) ?_
    refine zs_aload_n dX5_finish_76 rfl rfl ?_
    refine zs_get 0 dX5_finish_77 zf_RX5_42 rfl (v := .ref y) rfl ?_
    refine zs_get 11 dX5_finish_80 zf_RX5_102 rfl (v := .int (nI (Y 10))) rfl ?_
    refine zs_imul dX5_finish_83 ?_
    refine zs_as (y := nI (((s.2 4) p) * (Y 10))) (nI_mul _ _) ?_
    refine zs_bipush (v := nI 100) dX5_finish_84 (by decide) ?_
    refine zs_idiv dX5_finish_86 (fun hz => by rw [show (0 : Int32) = nI 0 from rfl, nI_eq' (by omega) (by omega)] at hz; omega) ?_
    refine zs_as (y := nI ((((s.2 4) p) * (Y 10)) / 100)) (nI_div (by omega) (by omega) (by omega)) ?_
    refine zs_istore_n (lv' := [(2, .int (nI ((((s.2 4) p) * (Y 10)) / 100))), (0, .ref ro), (1, .int (nI p))]) dX5_finish_87 (Nat.le_of_ble_eq_true rfl) rfl ?_
    refine zs_aload_n dX5_finish_88 rfl rfl ?_
    refine zs_dup dX5_finish_89 rfl ?_
    refine zs_get 0 dX5_finish_90 zf_RX5_80 rfl (v := .int (nI (s.1 17))) rfl ?_
    refine zs_iload_n dX5_finish_93 rfl ?_
    refine zs_iadd dX5_finish_94 ?_
    refine zs_as (y := nI ((s.1 17) + ((((s.2 4) p) * (Y 10)) / 100))) (nI_add _ _) ?_
    refine zs_put 0 dX5_finish_95 zf_RX5_80 rfl (Nat.le_of_ble_eq_true rfl) (zPv_i _) ?_
    show zS _ _ _ _ _ _ [(ro, .inr (4, fRow ar (nF (un s.1 17 ((s.1 17) + ((((s.2 4) p) * (Y 10)) / 100)))) (.ref y))), (ar 1, .inl (0, 12, .inl (nF (s.2 1)))), (ar 2, .inl (0, 12, .inl (nF (s.2 2)))), (ar 3, .inl (0, 12, .inl (nF (s.2 3)))), (ar 4, .inl (0, 12, .inl (nF (s.2 4)))), (ar 5, .inl (0, 12, .inl (nF (un (s.2 5) p (((s.2 5) p) + 1))))), (ar 6, .inl (0, 360, .inl (nF (s.2 6)))), (ar 7, .inl (0, 12, .inl (nF (s.2 7)))), (ar 8, .inl (0, 12, .inl (nF (s.2 8)))), (ar 9, .inl (0, 12, .inl (nF (s.2 9)))), (ar 10, .inl (0, 100, .inl (nF (s.2 10)))), (y, .inr (9, fYard ay (ysN Y wi))), (ay 1, .inl (0, 12, .inl nm)), (ay 2, .inl (0, 12, .inl (nF hdd))), (ay 3, .inl (0, 12, .inl (nF pcc))), (ay 4, .inl (0, 12, .inl (nF pww))), (ay 5, .inl (0, 64, .inl yf)), (ay 6, .inl (1, 64, .inl yb))]
    refine zs_aload_n dX5_finish_98 rfl rfl ?_
    refine zs_get 0 dX5_finish_99 zf_RX5_33 rfl (v := .ref (ar 8)) rfl ?_
    refine zs_iload_n dX5_finish_102 rfl ?_
    refine zs_iconst (v := nI 1) dX5_finish_103 (by decide) ?_
    refine zs_iadd dX5_finish_104 ?_
    refine zs_as (y := nI (p + 1)) (nI_add _ _) ?_
    refine zs_iald 8 dX5_finish_105 rfl (vp_in_nI (by omega) (by omega)) ?_
    refine zs_as (y := nI ((s.2 8) (p + 1))) (by rw [nI_c (n := p + 1) (by omega)]; rfl) ?_
    refine zs_bipush (v := nI 30) dX5_finish_106 (by decide) ?_
    refine zs_icmp_ge (tgt := 165) dX5_finish_108 (by decide) (fun c_2 => ?_) (fun c_2 => ?_)
    · have c_2 : 30 ≤ ((s.2 8) (p + 1)) := by have hc := c_2; rw [nI_le' (by omega) (by omega)] at hc; exact hc
      exact zs_vret dX5_finish_165 rfl ⟨rfl, by simp only [cFin, if_neg c_1, if_pos c_2]; rfl⟩
    · have c_2 : ¬ (30 ≤ ((s.2 8) (p + 1))) := by have hc := c_2; rw [nI_le' (by omega) (by omega)] at hc; exact hc
      refine zs_aload_n dX5_finish_111 rfl rfl ?_
      refine zs_get 0 dX5_finish_112 zf_RX5_30 rfl (v := .ref (ar 7)) rfl ?_
      refine zs_iload_n dX5_finish_115 rfl ?_
      refine zs_iconst (v := nI 1) dX5_finish_116 (by decide) ?_
      refine zs_iadd dX5_finish_117 ?_
      refine zs_as (y := nI (p + 1)) (nI_add _ _) ?_
      refine zs_iald 7 dX5_finish_118 rfl (vp_in_nI (by omega) (by omega)) ?_
      refine zs_as (y := nI ((s.2 7) (p + 1))) (by rw [nI_c (n := p + 1) (by omega)]; rfl) ?_
      refine zs_aload_n dX5_finish_119 rfl rfl ?_
      refine zs_get 0 dX5_finish_120 zf_RX5_33 rfl (v := .ref (ar 8)) rfl ?_
      refine zs_iload_n dX5_finish_123 rfl ?_
      refine zs_iconst (v := nI 1) dX5_finish_124 (by decide) ?_
      refine zs_iadd dX5_finish_125 ?_
      refine zs_as (y := nI (p + 1)) (nI_add _ _) ?_
      refine zs_iald 8 dX5_finish_126 rfl (vp_in_nI (by omega) (by omega)) ?_
      refine zs_as (y := nI ((s.2 8) (p + 1))) (by rw [nI_c (n := p + 1) (by omega)]; rfl) ?_
      refine zs_iadd dX5_finish_127 ?_
      refine zs_as (y := nI (((s.2 7) (p + 1)) + ((s.2 8) (p + 1)))) (nI_add _ _) ?_
      refine zs_bipush (v := nI 30) dX5_finish_128 (by decide) ?_
      refine zs_irem dX5_finish_130 (fun hz => by rw [show (0 : Int32) = nI 0 from rfl, nI_eq' (by omega) (by omega)] at hz; omega) ?_
      refine zs_as (y := nI ((((s.2 7) (p + 1)) + ((s.2 8) (p + 1))) % 30)) (nI_rem (by omega) (by omega) (by omega)) ?_
      refine zs_istore_n (lv' := [(3, .int (nI ((((s.2 7) (p + 1)) + ((s.2 8) (p + 1))) % 30))), (2, .int (nI ((((s.2 4) p) * (Y 10)) / 100))), (0, .ref ro), (1, .int (nI p))]) dX5_finish_131 (Nat.le_of_ble_eq_true rfl) rfl ?_
      refine zs_aload_n dX5_finish_132 rfl rfl ?_
      refine zs_get 0 dX5_finish_133 zf_RX5_27 rfl (v := .ref (ar 6)) rfl ?_
      refine zs_iload_n dX5_finish_136 rfl ?_
      refine zs_iconst (v := nI 1) dX5_finish_137 (by decide) ?_
      refine zs_iadd dX5_finish_138 ?_
      refine zs_as (y := nI (p + 1)) (nI_add _ _) ?_
      refine zs_bipush (v := nI 30) dX5_finish_139 (by decide) ?_
      refine zs_imul dX5_finish_141 ?_
      refine zs_as (y := nI ((p + 1) * 30)) (nI_mul _ _) ?_
      refine zs_iload_n dX5_finish_142 rfl ?_
      refine zs_iadd dX5_finish_143 ?_
      refine zs_as (y := nI (((p + 1) * 30) + ((((s.2 7) (p + 1)) + ((s.2 8) (p + 1))) % 30))) (nI_add _ _) ?_
      refine zs_aload_n dX5_finish_144 rfl rfl ?_
      refine zs_get 0 dX5_finish_145 zf_RX5_21 rfl (v := .ref (ar 4)) rfl ?_
      refine zs_iload_n dX5_finish_148 rfl ?_
      refine zs_iald 4 dX5_finish_149 rfl (vp_in_nI (by omega) (by omega)) ?_
      refine zs_as (y := nI ((s.2 4) p)) (by rw [nI_c (n := p) (by omega)]; rfl) ?_
      refine zs_iload_n dX5_finish_150 rfl ?_
      refine zs_isub dX5_finish_151 ?_
      refine zs_as (y := nI (((s.2 4) p) - ((((s.2 4) p) * (Y 10)) / 100))) (nI_sub (by omega)) ?_
      refine zs_iast 6 dX5_finish_152 rfl (vp_in_nI (by omega) (by omega)) ?_
      rw [nI_c (n := ((p + 1) * 30) + ((((s.2 7) (p + 1)) + ((s.2 8) (p + 1))) % 30)) (by omega), nF_u]
      show zS _ _ _ _ _ _ [(ro, .inr (4, fRow ar (nF (un s.1 17 ((s.1 17) + ((((s.2 4) p) * (Y 10)) / 100)))) (.ref y))), (ar 1, .inl (0, 12, .inl (nF (s.2 1)))), (ar 2, .inl (0, 12, .inl (nF (s.2 2)))), (ar 3, .inl (0, 12, .inl (nF (s.2 3)))), (ar 4, .inl (0, 12, .inl (nF (s.2 4)))), (ar 5, .inl (0, 12, .inl (nF (un (s.2 5) p (((s.2 5) p) + 1))))), (ar 6, .inl (0, 360, .inl (nF (un (s.2 6) (((p + 1) * 30) + ((((s.2 7) (p + 1)) + ((s.2 8) (p + 1))) % 30)) (((s.2 4) p) - ((((s.2 4) p) * (Y 10)) / 100)))))), (ar 7, .inl (0, 12, .inl (nF (s.2 7)))), (ar 8, .inl (0, 12, .inl (nF (s.2 8)))), (ar 9, .inl (0, 12, .inl (nF (s.2 9)))), (ar 10, .inl (0, 100, .inl (nF (s.2 10)))), (y, .inr (9, fYard ay (ysN Y wi))), (ay 1, .inl (0, 12, .inl nm)), (ay 2, .inl (0, 12, .inl (nF hdd))), (ay 3, .inl (0, 12, .inl (nF pcc))), (ay 4, .inl (0, 12, .inl (nF pww))), (ay 5, .inl (0, 64, .inl yf)), (ay 6, .inl (1, 64, .inl yb))]
      refine zs_aload_n dX5_finish_153 rfl rfl ?_
      refine zs_get 0 dX5_finish_154 zf_RX5_33 rfl (v := .ref (ar 8)) rfl ?_
      refine zs_iload_n dX5_finish_157 rfl ?_
      refine zs_iconst (v := nI 1) dX5_finish_158 (by decide) ?_
      refine zs_iadd dX5_finish_159 ?_
      refine zs_as (y := nI (p + 1)) (nI_add _ _) ?_
      refine zs_dup2 dX5_finish_160 rfl rfl ?_
      refine zs_iald 8 dX5_finish_161 rfl (vp_in_nI (by omega) (by omega)) ?_
      refine zs_as (y := nI ((s.2 8) (p + 1))) (by rw [nI_c (n := p + 1) (by omega)]; rfl) ?_
      refine zs_iconst (v := nI 1) dX5_finish_162 (by decide) ?_
      refine zs_iadd dX5_finish_163 ?_
      refine zs_as (y := nI (((s.2 8) (p + 1)) + 1)) (nI_add _ _) ?_
      refine zs_iast 8 dX5_finish_164 rfl (vp_in_nI (by omega) (by omega)) ?_
      rw [nI_c (n := p + 1) (by omega), nF_u]
      show zS _ _ _ _ _ _ [(ro, .inr (4, fRow ar (nF (un s.1 17 ((s.1 17) + ((((s.2 4) p) * (Y 10)) / 100)))) (.ref y))), (ar 1, .inl (0, 12, .inl (nF (s.2 1)))), (ar 2, .inl (0, 12, .inl (nF (s.2 2)))), (ar 3, .inl (0, 12, .inl (nF (s.2 3)))), (ar 4, .inl (0, 12, .inl (nF (s.2 4)))), (ar 5, .inl (0, 12, .inl (nF (un (s.2 5) p (((s.2 5) p) + 1))))), (ar 6, .inl (0, 360, .inl (nF (un (s.2 6) (((p + 1) * 30) + ((((s.2 7) (p + 1)) + ((s.2 8) (p + 1))) % 30)) (((s.2 4) p) - ((((s.2 4) p) * (Y 10)) / 100)))))), (ar 7, .inl (0, 12, .inl (nF (s.2 7)))), (ar 8, .inl (0, 12, .inl (nF (un (s.2 8) (p + 1) (((s.2 8) (p + 1)) + 1))))), (ar 9, .inl (0, 12, .inl (nF (s.2 9)))), (ar 10, .inl (0, 100, .inl (nF (s.2 10)))), (y, .inr (9, fYard ay (ysN Y wi))), (ay 1, .inl (0, 12, .inl nm)), (ay 2, .inl (0, 12, .inl (nF hdd))), (ay 3, .inl (0, 12, .inl (nF pcc))), (ay 4, .inl (0, 12, .inl (nF pww))), (ay 5, .inl (0, 64, .inl yf)), (ay 6, .inl (1, 64, .inl yb))]
      exact zs_vret dX5_finish_165 rfl ⟨rfl, by simp only [cFin, if_neg c_1, if_neg c_2]; rfl⟩
  · have c_1 : p = ((s.1 1) - 1) := by have hc := c_1; rw [nI_eq' (by omega) (by omega)] at hc; exact hc
    refine zs_aload_n dX5_finish_20 rfl rfl ?_
    refine zs_dup dX5_finish_21 rfl ?_
    refine zs_get 0 dX5_finish_22 zf_RX5_74 rfl (v := .int (nI (s.1 15))) rfl ?_
    refine zs_aload_n dX5_finish_25 rfl rfl ?_
    refine zs_get 0 dX5_finish_26 zf_RX5_21 rfl (v := .ref (ar 4)) rfl ?_
    refine zs_iload_n dX5_finish_29 rfl ?_
    refine zs_iald 4 dX5_finish_30 rfl (vp_in_nI (by omega) (by omega)) ?_
    refine zs_as (y := nI ((s.2 4) p)) (by rw [nI_c (n := p) (by omega)]; rfl) ?_
    refine zs_iadd dX5_finish_31 ?_
    refine zs_as (y := nI ((s.1 15) + ((s.2 4) p))) (nI_add _ _) ?_
    refine zs_put 0 dX5_finish_32 zf_RX5_74 rfl (Nat.le_of_ble_eq_true rfl) (zPv_i _) ?_
    show zS _ _ _ _ _ _ [(ro, .inr (4, fRow ar (nF (un s.1 15 ((s.1 15) + ((s.2 4) p)))) (.ref y))), (ar 1, .inl (0, 12, .inl (nF (s.2 1)))), (ar 2, .inl (0, 12, .inl (nF (s.2 2)))), (ar 3, .inl (0, 12, .inl (nF (s.2 3)))), (ar 4, .inl (0, 12, .inl (nF (s.2 4)))), (ar 5, .inl (0, 12, .inl (nF (un (s.2 5) p (((s.2 5) p) + 1))))), (ar 6, .inl (0, 360, .inl (nF (s.2 6)))), (ar 7, .inl (0, 12, .inl (nF (s.2 7)))), (ar 8, .inl (0, 12, .inl (nF (s.2 8)))), (ar 9, .inl (0, 12, .inl (nF (s.2 9)))), (ar 10, .inl (0, 100, .inl (nF (s.2 10)))), (y, .inr (9, fYard ay (ysN Y wi))), (ay 1, .inl (0, 12, .inl nm)), (ay 2, .inl (0, 12, .inl (nF hdd))), (ay 3, .inl (0, 12, .inl (nF pcc))), (ay 4, .inl (0, 12, .inl (nF pww))), (ay 5, .inl (0, 64, .inl yf)), (ay 6, .inl (1, 64, .inl yb))]
    refine zs_aload_n dX5_finish_35 rfl rfl ?_
    refine zs_dup dX5_finish_36 rfl ?_
    refine zs_get 0 dX5_finish_37 zf_RX5_83 rfl (v := .int (nI (s.1 18))) rfl ?_
    refine zs_iconst (v := nI 1) dX5_finish_40 (by decide) ?_
    refine zs_iadd dX5_finish_41 ?_
    refine zs_as (y := nI ((s.1 18) + 1)) (nI_add _ _) ?_
    refine zs_put 0 dX5_finish_42 zf_RX5_83 rfl (Nat.le_of_ble_eq_true rfl) (zPv_i _) ?_
    show zS _ _ _ _ _ _ [(ro, .inr (4, fRow ar (nF (un (un s.1 15 ((s.1 15) + ((s.2 4) p))) 18 ((s.1 18) + 1))) (.ref y))), (ar 1, .inl (0, 12, .inl (nF (s.2 1)))), (ar 2, .inl (0, 12, .inl (nF (s.2 2)))), (ar 3, .inl (0, 12, .inl (nF (s.2 3)))), (ar 4, .inl (0, 12, .inl (nF (s.2 4)))), (ar 5, .inl (0, 12, .inl (nF (un (s.2 5) p (((s.2 5) p) + 1))))), (ar 6, .inl (0, 360, .inl (nF (s.2 6)))), (ar 7, .inl (0, 12, .inl (nF (s.2 7)))), (ar 8, .inl (0, 12, .inl (nF (s.2 8)))), (ar 9, .inl (0, 12, .inl (nF (s.2 9)))), (ar 10, .inl (0, 100, .inl (nF (s.2 10)))), (y, .inr (9, fYard ay (ysN Y wi))), (ay 1, .inl (0, 12, .inl nm)), (ay 2, .inl (0, 12, .inl (nF hdd))), (ay 3, .inl (0, 12, .inl (nF pcc))), (ay 4, .inl (0, 12, .inl (nF pww))), (ay 5, .inl (0, 64, .inl yf)), (ay 6, .inl (1, 64, .inl yb))]
    refine zs_aload_n dX5_finish_45 rfl rfl ?_
    refine zs_get 0 dX5_finish_46 zf_RX5_39 rfl (v := .ref (ar 10)) rfl ?_
    refine zs_aload_n dX5_finish_49 rfl rfl ?_
    refine zs_get 0 dX5_finish_50 zf_RX5_62 rfl (v := .int (nI (s.1 12))) rfl ?_
    refine zs_aload_n dX5_finish_53 rfl rfl ?_
    refine zs_get 0 dX5_finish_54 zf_RX5_42 rfl (v := .ref y) rfl ?_
    refine zs_get 11 dX5_finish_57 zf_RX5_99 rfl (v := .int (nI (Y 11))) rfl ?_
    refine zs_iadd dX5_finish_60 ?_
    refine zs_as (y := nI ((s.1 12) + (Y 11))) (nI_add _ _) ?_
    refine zs_bipush (v := nI 100) dX5_finish_61 (by decide) ?_
    refine zs_irem dX5_finish_63 (fun hz => by rw [show (0 : Int32) = nI 0 from rfl, nI_eq' (by omega) (by omega)] at hz; omega) ?_
    refine zs_as (y := nI (((s.1 12) + (Y 11)) % 100)) (nI_rem (by omega) (by omega) (by omega)) ?_
    refine zs_dup2 dX5_finish_64 rfl rfl ?_
    refine zs_iald 10 dX5_finish_65 rfl (vp_in_nI (by omega) (by omega)) ?_
    refine zs_as (y := nI ((s.2 10) (((s.1 12) + (Y 11)) % 100))) (by rw [nI_c (n := ((s.1 12) + (Y 11)) % 100) (by omega)]; rfl) ?_
    refine zs_iconst (v := nI 1) dX5_finish_66 (by decide) ?_
    refine zs_iadd dX5_finish_67 ?_
    refine zs_as (y := nI (((s.2 10) (((s.1 12) + (Y 11)) % 100)) + 1)) (nI_add _ _) ?_
    refine zs_iast 10 dX5_finish_68 rfl (vp_in_nI (by omega) (by omega)) ?_
    rw [nI_c (n := ((s.1 12) + (Y 11)) % 100) (by omega), nF_u]
    show zS _ _ _ _ _ _ [(ro, .inr (4, fRow ar (nF (un (un s.1 15 ((s.1 15) + ((s.2 4) p))) 18 ((s.1 18) + 1))) (.ref y))), (ar 1, .inl (0, 12, .inl (nF (s.2 1)))), (ar 2, .inl (0, 12, .inl (nF (s.2 2)))), (ar 3, .inl (0, 12, .inl (nF (s.2 3)))), (ar 4, .inl (0, 12, .inl (nF (s.2 4)))), (ar 5, .inl (0, 12, .inl (nF (un (s.2 5) p (((s.2 5) p) + 1))))), (ar 6, .inl (0, 360, .inl (nF (s.2 6)))), (ar 7, .inl (0, 12, .inl (nF (s.2 7)))), (ar 8, .inl (0, 12, .inl (nF (s.2 8)))), (ar 9, .inl (0, 12, .inl (nF (s.2 9)))), (ar 10, .inl (0, 100, .inl (nF (un (s.2 10) (((s.1 12) + (Y 11)) % 100) (((s.2 10) (((s.1 12) + (Y 11)) % 100)) + 1))))), (y, .inr (9, fYard ay (ysN Y wi))), (ay 1, .inl (0, 12, .inl nm)), (ay 2, .inl (0, 12, .inl (nF hdd))), (ay 3, .inl (0, 12, .inl (nF pcc))), (ay 4, .inl (0, 12, .inl (nF pww))), (ay 5, .inl (0, 64, .inl yf)), (ay 6, .inl (1, 64, .inl yb))]
    exact zs_vret dX5_finish_69 rfl ⟨rfl, by simp only [cFin, if_pos c_1]; rfl⟩
theorem dX5_start_0 : decode cX5_start 0 = .ok (.iload_n 1, 1) := by decide +kernel
theorem dX5_start_1 : decode cX5_start 1 = .ok (.ifCond .ne 81, 3) := by decide +kernel
theorem dX5_start_4 : decode cX5_start 4 = .ok (.aload_n 0, 1) := by decide +kernel
theorem dX5_start_5 : decode cX5_start 5 = .ok (.getfield 68, 3) := by decide +kernel
theorem dX5_start_8 : decode cX5_start 8 = .ok (.ifCond .eq 10, 3) := by decide +kernel
theorem dX5_start_11 : decode cX5_start 11 = .ok (.aload_n 0, 1) := by decide +kernel
theorem dX5_start_12 : decode cX5_start 12 = .ok (.getfield 71, 3) := by decide +kernel
theorem dX5_start_15 : decode cX5_start 15 = .ok (.ifCond .ne 4, 3) := by decide +kernel
theorem dX5_start_18 : decode cX5_start 18 = .ok (.return_, 1) := by decide +kernel
theorem dX5_start_19 : decode cX5_start 19 = .ok (.aload_n 0, 1) := by decide +kernel
theorem dX5_start_20 : decode cX5_start 20 = .ok (.dup, 1) := by decide +kernel
theorem dX5_start_21 : decode cX5_start 21 = .ok (.getfield 68, 3) := by decide +kernel
theorem dX5_start_24 : decode cX5_start 24 = .ok (.iconst 1, 1) := by decide +kernel
theorem dX5_start_25 : decode cX5_start 25 = .ok (.isub, 1) := by decide +kernel
theorem dX5_start_26 : decode cX5_start 26 = .ok (.putfield 68, 3) := by decide +kernel
theorem dX5_start_29 : decode cX5_start 29 = .ok (.aload_n 0, 1) := by decide +kernel
theorem dX5_start_30 : decode cX5_start 30 = .ok (.getfield 21, 3) := by decide +kernel
theorem dX5_start_33 : decode cX5_start 33 = .ok (.iconst 0, 1) := by decide +kernel
theorem dX5_start_34 : decode cX5_start 34 = .ok (.aload_n 0, 1) := by decide +kernel
theorem dX5_start_35 : decode cX5_start 35 = .ok (.getfield 42, 3) := by decide +kernel
theorem dX5_start_38 : decode cX5_start 38 = .ok (.getfield 105, 3) := by decide +kernel
theorem dX5_start_41 : decode cX5_start 41 = .ok (.aload_n 0, 1) := by decide +kernel
theorem dX5_start_42 : decode cX5_start 42 = .ok (.getfield 71, 3) := by decide +kernel
theorem dX5_start_45 : decode cX5_start 45 = .ok (.invokestatic 46, 3) := by decide +kernel
theorem dX5_start_48 : decode cX5_start 48 = .ok (.iastore, 1) := by decide +kernel
theorem dX5_start_49 : decode cX5_start 49 = .ok (.aload_n 0, 1) := by decide +kernel
theorem dX5_start_50 : decode cX5_start 50 = .ok (.dup, 1) := by decide +kernel
theorem dX5_start_51 : decode cX5_start 51 = .ok (.getfield 71, 3) := by decide +kernel
theorem dX5_start_54 : decode cX5_start 54 = .ok (.aload_n 0, 1) := by decide +kernel
theorem dX5_start_55 : decode cX5_start 55 = .ok (.getfield 21, 3) := by decide +kernel
theorem dX5_start_58 : decode cX5_start 58 = .ok (.iconst 0, 1) := by decide +kernel
theorem dX5_start_59 : decode cX5_start 59 = .ok (.iaload, 1) := by decide +kernel
theorem dX5_start_60 : decode cX5_start 60 = .ok (.isub, 1) := by decide +kernel
theorem dX5_start_61 : decode cX5_start 61 = .ok (.putfield 71, 3) := by decide +kernel
theorem dX5_start_64 : decode cX5_start 64 = .ok (.aload_n 0, 1) := by decide +kernel
theorem dX5_start_65 : decode cX5_start 65 = .ok (.dup, 1) := by decide +kernel
theorem dX5_start_66 : decode cX5_start 66 = .ok (.getfield 77, 3) := by decide +kernel
theorem dX5_start_69 : decode cX5_start 69 = .ok (.aload_n 0, 1) := by decide +kernel
theorem dX5_start_70 : decode cX5_start 70 = .ok (.getfield 21, 3) := by decide +kernel
theorem dX5_start_73 : decode cX5_start 73 = .ok (.iconst 0, 1) := by decide +kernel
theorem dX5_start_74 : decode cX5_start 74 = .ok (.iaload, 1) := by decide +kernel
theorem dX5_start_75 : decode cX5_start 75 = .ok (.iadd, 1) := by decide +kernel
theorem dX5_start_76 : decode cX5_start 76 = .ok (.putfield 77, 3) := by decide +kernel
theorem dX5_start_79 : decode cX5_start 79 = .ok (.goto 62, 3) := by decide +kernel
theorem dX5_start_82 : decode cX5_start 82 = .ok (.aload_n 0, 1) := by decide +kernel
theorem dX5_start_83 : decode cX5_start 83 = .ok (.getfield 33, 3) := by decide +kernel
theorem dX5_start_86 : decode cX5_start 86 = .ok (.iload_n 1, 1) := by decide +kernel
theorem dX5_start_87 : decode cX5_start 87 = .ok (.iaload, 1) := by decide +kernel
theorem dX5_start_88 : decode cX5_start 88 = .ok (.ifCond .ne 4, 3) := by decide +kernel
theorem dX5_start_91 : decode cX5_start 91 = .ok (.return_, 1) := by decide +kernel
theorem dX5_start_92 : decode cX5_start 92 = .ok (.aload_n 0, 1) := by decide +kernel
theorem dX5_start_93 : decode cX5_start 93 = .ok (.getfield 21, 3) := by decide +kernel
theorem dX5_start_96 : decode cX5_start 96 = .ok (.iload_n 1, 1) := by decide +kernel
theorem dX5_start_97 : decode cX5_start 97 = .ok (.aload_n 0, 1) := by decide +kernel
theorem dX5_start_98 : decode cX5_start 98 = .ok (.getfield 27, 3) := by decide +kernel
theorem dX5_start_101 : decode cX5_start 101 = .ok (.iload_n 1, 1) := by decide +kernel
theorem dX5_start_102 : decode cX5_start 102 = .ok (.bipush 30, 2) := by decide +kernel
theorem dX5_start_104 : decode cX5_start 104 = .ok (.imul, 1) := by decide +kernel
theorem dX5_start_105 : decode cX5_start 105 = .ok (.aload_n 0, 1) := by decide +kernel
theorem dX5_start_106 : decode cX5_start 106 = .ok (.getfield 30, 3) := by decide +kernel
theorem dX5_start_109 : decode cX5_start 109 = .ok (.iload_n 1, 1) := by decide +kernel
theorem dX5_start_110 : decode cX5_start 110 = .ok (.iaload, 1) := by decide +kernel
theorem dX5_start_111 : decode cX5_start 111 = .ok (.iadd, 1) := by decide +kernel
theorem dX5_start_112 : decode cX5_start 112 = .ok (.iaload, 1) := by decide +kernel
theorem dX5_start_113 : decode cX5_start 113 = .ok (.iastore, 1) := by decide +kernel
theorem dX5_start_114 : decode cX5_start 114 = .ok (.aload_n 0, 1) := by decide +kernel
theorem dX5_start_115 : decode cX5_start 115 = .ok (.getfield 30, 3) := by decide +kernel
theorem dX5_start_118 : decode cX5_start 118 = .ok (.iload_n 1, 1) := by decide +kernel
theorem dX5_start_119 : decode cX5_start 119 = .ok (.aload_n 0, 1) := by decide +kernel
theorem dX5_start_120 : decode cX5_start 120 = .ok (.getfield 30, 3) := by decide +kernel
theorem dX5_start_123 : decode cX5_start 123 = .ok (.iload_n 1, 1) := by decide +kernel
theorem dX5_start_124 : decode cX5_start 124 = .ok (.iaload, 1) := by decide +kernel
theorem dX5_start_125 : decode cX5_start 125 = .ok (.iconst 1, 1) := by decide +kernel
theorem dX5_start_126 : decode cX5_start 126 = .ok (.iadd, 1) := by decide +kernel
theorem dX5_start_127 : decode cX5_start 127 = .ok (.bipush 30, 2) := by decide +kernel
theorem dX5_start_129 : decode cX5_start 129 = .ok (.irem, 1) := by decide +kernel
theorem dX5_start_130 : decode cX5_start 130 = .ok (.iastore, 1) := by decide +kernel
theorem dX5_start_131 : decode cX5_start 131 = .ok (.aload_n 0, 1) := by decide +kernel
theorem dX5_start_132 : decode cX5_start 132 = .ok (.getfield 33, 3) := by decide +kernel
theorem dX5_start_135 : decode cX5_start 135 = .ok (.iload_n 1, 1) := by decide +kernel
theorem dX5_start_136 : decode cX5_start 136 = .ok (.dup2, 1) := by decide +kernel
theorem dX5_start_137 : decode cX5_start 137 = .ok (.iaload, 1) := by decide +kernel
theorem dX5_start_138 : decode cX5_start 138 = .ok (.iconst 1, 1) := by decide +kernel
theorem dX5_start_139 : decode cX5_start 139 = .ok (.isub, 1) := by decide +kernel
theorem dX5_start_140 : decode cX5_start 140 = .ok (.iastore, 1) := by decide +kernel
theorem dX5_start_141 : decode cX5_start 141 = .ok (.aload_n 0, 1) := by decide +kernel
theorem dX5_start_142 : decode cX5_start 142 = .ok (.getfield 24, 3) := by decide +kernel
theorem dX5_start_145 : decode cX5_start 145 = .ok (.iload_n 1, 1) := by decide +kernel
theorem dX5_start_146 : decode cX5_start 146 = .ok (.iaload, 1) := by decide +kernel
theorem dX5_start_147 : decode cX5_start 147 = .ok (.bipush 10, 2) := by decide +kernel
theorem dX5_start_149 : decode cX5_start 149 = .ok (.aload_n 0, 1) := by decide +kernel
theorem dX5_start_150 : decode cX5_start 150 = .ok (.getfield 42, 3) := by decide +kernel
theorem dX5_start_153 : decode cX5_start 153 = .ok (.getfield 108, 3) := by decide +kernel
theorem dX5_start_156 : decode cX5_start 156 = .ok (.aload_n 0, 1) := by decide +kernel
theorem dX5_start_157 : decode cX5_start 157 = .ok (.getfield 9, 3) := by decide +kernel
theorem dX5_start_160 : decode cX5_start 160 = .ok (.iload_n 1, 1) := by decide +kernel
theorem dX5_start_161 : decode cX5_start 161 = .ok (.iaload, 1) := by decide +kernel
theorem dX5_start_162 : decode cX5_start 162 = .ok (.iaload, 1) := by decide +kernel
theorem dX5_start_163 : decode cX5_start 163 = .ok (.imul, 1) := by decide +kernel
theorem dX5_start_164 : decode cX5_start 164 = .ok (.if_icmp .lt 7, 3) := by decide +kernel
theorem dX5_start_167 : decode cX5_start 167 = .ok (.iconst 1, 1) := by decide +kernel
theorem dX5_start_168 : decode cX5_start 168 = .ok (.goto 4, 3) := by decide +kernel
theorem dX5_start_171 : decode cX5_start 171 = .ok (.iconst 0, 1) := by decide +kernel
theorem dX5_start_172 : decode cX5_start 172 = .ok (.istore_n 2, 1) := by decide +kernel
theorem dX5_start_173 : decode cX5_start 173 = .ok (.aload_n 0, 1) := by decide +kernel
theorem dX5_start_174 : decode cX5_start 174 = .ok (.getfield 18, 3) := by decide +kernel
theorem dX5_start_177 : decode cX5_start 177 = .ok (.iload_n 1, 1) := by decide +kernel
theorem dX5_start_178 : decode cX5_start 178 = .ok (.iload_n 2, 1) := by decide +kernel
theorem dX5_start_179 : decode cX5_start 179 = .ok (.ifCond .eq 14, 3) := by decide +kernel
theorem dX5_start_182 : decode cX5_start 182 = .ok (.iconst 2, 1) := by decide +kernel
theorem dX5_start_183 : decode cX5_start 183 = .ok (.aload_n 0, 1) := by decide +kernel
theorem dX5_start_184 : decode cX5_start 184 = .ok (.getfield 15, 3) := by decide +kernel
theorem dX5_start_187 : decode cX5_start 187 = .ok (.iload_n 1, 1) := by decide +kernel
theorem dX5_start_188 : decode cX5_start 188 = .ok (.iaload, 1) := by decide +kernel
theorem dX5_start_189 : decode cX5_start 189 = .ok (.imul, 1) := by decide +kernel
theorem dX5_start_190 : decode cX5_start 190 = .ok (.goto 9, 3) := by decide +kernel
theorem dX5_start_193 : decode cX5_start 193 = .ok (.aload_n 0, 1) := by decide +kernel
theorem dX5_start_194 : decode cX5_start 194 = .ok (.getfield 15, 3) := by decide +kernel
theorem dX5_start_197 : decode cX5_start 197 = .ok (.iload_n 1, 1) := by decide +kernel
theorem dX5_start_198 : decode cX5_start 198 = .ok (.iaload, 1) := by decide +kernel
theorem dX5_start_199 : decode cX5_start 199 = .ok (.iastore, 1) := by decide +kernel
theorem dX5_start_200 : decode cX5_start 200 = .ok (.return_, 1) := by decide +kernel
set_option maxRecDepth 100000 in
theorem s_rowSta (l : Launch) (dd : Nat) (ro y : Nat) (ar ay : Nat → Nat) (s : zRs) (Y : Nat → Nat) (wi : Int32) (nm : Nat → Int32) (hdd pcc pww : Nat → Nat) (yf yb : Nat → Int32) (p : Nat) (hd : 1 ≤ dd) (hp : p < s.1 1) (hY6 : 1 ≤ Y 7 ∧ Y 7 ≤ 20) (hY10 : Y 10 ≤ 99) (hY11 : Y 11 ≤ 99) (hpw : ∀ j, j < 12 → pww j ≤ 99) (B : Nat) (hB : B ≤ 100000000) (hI : cI B s) : zSp l mX5_start dd 0 0 [.ref ro, .int (nI p)] [(ro, .inr (4, fRow ar (nF s.1) (.ref y))), (ar 1, .inl (0, 12, .inl (nF (s.2 1)))), (ar 2, .inl (0, 12, .inl (nF (s.2 2)))), (ar 3, .inl (0, 12, .inl (nF (s.2 3)))), (ar 4, .inl (0, 12, .inl (nF (s.2 4)))), (ar 5, .inl (0, 12, .inl (nF (s.2 5)))), (ar 6, .inl (0, 360, .inl (nF (s.2 6)))), (ar 7, .inl (0, 12, .inl (nF (s.2 7)))), (ar 8, .inl (0, 12, .inl (nF (s.2 8)))), (ar 9, .inl (0, 12, .inl (nF (s.2 9)))), (ar 10, .inl (0, 100, .inl (nF (s.2 10)))), (y, .inr (9, fYard ay (ysN Y wi))), (ay 1, .inl (0, 12, .inl nm)), (ay 2, .inl (0, 12, .inl (nF hdd))), (ay 3, .inl (0, 12, .inl (nF pcc))), (ay 4, .inl (0, 12, .inl (nF pww))), (ay 5, .inl (0, 64, .inl yf)), (ay 6, .inl (1, 64, .inl yb))] (fun r K' => r = none ∧ K' = kRow ro ar (.ref y) (cSta (Y 7) pww s p) ++ kYrd y ay Y wi nm hdd pcc pww yf yb) := by
  refine zSp.of (by decide) (Nat.le_of_ble_eq_true rfl) (fun h0 => ?_)
  show zS _ 0 0 0 [(0, .ref ro), (1, .int (nI p))] [] [(ro, .inr (4, fRow ar (nF s.1) (.ref y))), (ar 1, .inl (0, 12, .inl (nF (s.2 1)))), (ar 2, .inl (0, 12, .inl (nF (s.2 2)))), (ar 3, .inl (0, 12, .inl (nF (s.2 3)))), (ar 4, .inl (0, 12, .inl (nF (s.2 4)))), (ar 5, .inl (0, 12, .inl (nF (s.2 5)))), (ar 6, .inl (0, 360, .inl (nF (s.2 6)))), (ar 7, .inl (0, 12, .inl (nF (s.2 7)))), (ar 8, .inl (0, 12, .inl (nF (s.2 8)))), (ar 9, .inl (0, 12, .inl (nF (s.2 9)))), (ar 10, .inl (0, 100, .inl (nF (s.2 10)))), (y, .inr (9, fYard ay (ysN Y wi))), (ay 1, .inl (0, 12, .inl nm)), (ay 2, .inl (0, 12, .inl (nF hdd))), (ay 3, .inl (0, 12, .inl (nF pcc))), (ay 4, .inl (0, 12, .inl (nF pww))), (ay 5, .inl (0, 64, .inl yf)), (ay 6, .inl (1, 64, .inl yb))]
  obtain ⟨⟨i1, i2⟩, ip, iq, j12, j13, j14⟩ := hI
  have bp := ip p (by omega)
  have bw := hpw (s.2 1 p) (by omega)
  have bq := iq (p * 30 + s.2 7 p) (by omega)
  have hm1 : min (Y 7) (s.1 14) ≤ s.1 14 := Nat.min_le_right _ _
  have hm2 : min (Y 7) (s.1 14) ≤ 20 := Nat.le_trans (Nat.min_le_left _ _) hY6.2
  refine zs_iload_n dX5_start_0 rfl ?_
  refine zs_if_ne (tgt := 82) dX5_start_1 (by decide) (fun c_1 => ?_) (fun c_1 => ?_)
  · have c_1 : ¬ (p = 0) := by have hc := c_1; rw [show (0 : Int32) = nI 0 from rfl] at hc; rw [nI_eq' (by omega) (by omega)] at hc; exact hc
    refine zs_aload_n dX5_start_82 rfl rfl ?_
    refine zs_get 0 dX5_start_83 zf_RX5_33 rfl (v := .ref (ar 8)) rfl ?_
    refine zs_iload_n dX5_start_86 rfl ?_
    refine zs_iald 8 dX5_start_87 rfl (vp_in_nI (by omega) (by omega)) ?_
    refine zs_as (y := nI ((s.2 8) p)) (by rw [nI_c (n := p) (by omega)]; rfl) ?_
    refine zs_if_ne (tgt := 92) dX5_start_88 (by decide) (fun c_2 => ?_) (fun c_2 => ?_)
    · have c_2 : ¬ (((s.2 8) p) = 0) := by have hc := c_2; rw [show (0 : Int32) = nI 0 from rfl] at hc; rw [nI_eq' (by omega) (by omega)] at hc; exact hc
      refine zs_aload_n dX5_start_92 rfl rfl ?_
      refine zs_get 0 dX5_start_93 zf_RX5_21 rfl (v := .ref (ar 4)) rfl ?_
      refine zs_iload_n dX5_start_96 rfl ?_
      refine zs_aload_n dX5_start_97 rfl rfl ?_
      refine zs_get 0 dX5_start_98 zf_RX5_27 rfl (v := .ref (ar 6)) rfl ?_
      refine zs_iload_n dX5_start_101 rfl ?_
      refine zs_bipush (v := nI 30) dX5_start_102 (by decide) ?_
      refine zs_imul dX5_start_104 ?_
      refine zs_as (y := nI (p * 30)) (nI_mul _ _) ?_
      refine zs_aload_n dX5_start_105 rfl rfl ?_
      refine zs_get 0 dX5_start_106 zf_RX5_30 rfl (v := .ref (ar 7)) rfl ?_
      refine zs_iload_n dX5_start_109 rfl ?_
      refine zs_iald 7 dX5_start_110 rfl (vp_in_nI (by omega) (by omega)) ?_
      refine zs_as (y := nI ((s.2 7) p)) (by rw [nI_c (n := p) (by omega)]; rfl) ?_
      refine zs_iadd dX5_start_111 ?_
      refine zs_as (y := nI ((p * 30) + ((s.2 7) p))) (nI_add _ _) ?_
      refine zs_iald 6 dX5_start_112 rfl (vp_in_nI (by omega) (by omega)) ?_
      refine zs_as (y := nI ((s.2 6) ((p * 30) + ((s.2 7) p)))) (by rw [nI_c (n := (p * 30) + ((s.2 7) p)) (by omega)]; rfl) ?_
      refine zs_iast 4 dX5_start_113 rfl (vp_in_nI (by omega) (by omega)) ?_
      rw [nI_c (n := p) (by omega), nF_u]
      show zS _ _ _ _ _ _ [(ro, .inr (4, fRow ar (nF s.1) (.ref y))), (ar 1, .inl (0, 12, .inl (nF (s.2 1)))), (ar 2, .inl (0, 12, .inl (nF (s.2 2)))), (ar 3, .inl (0, 12, .inl (nF (s.2 3)))), (ar 4, .inl (0, 12, .inl (nF (un (s.2 4) p ((s.2 6) ((p * 30) + ((s.2 7) p))))))), (ar 5, .inl (0, 12, .inl (nF (s.2 5)))), (ar 6, .inl (0, 360, .inl (nF (s.2 6)))), (ar 7, .inl (0, 12, .inl (nF (s.2 7)))), (ar 8, .inl (0, 12, .inl (nF (s.2 8)))), (ar 9, .inl (0, 12, .inl (nF (s.2 9)))), (ar 10, .inl (0, 100, .inl (nF (s.2 10)))), (y, .inr (9, fYard ay (ysN Y wi))), (ay 1, .inl (0, 12, .inl nm)), (ay 2, .inl (0, 12, .inl (nF hdd))), (ay 3, .inl (0, 12, .inl (nF pcc))), (ay 4, .inl (0, 12, .inl (nF pww))), (ay 5, .inl (0, 64, .inl yf)), (ay 6, .inl (1, 64, .inl yb))]
      refine zs_aload_n dX5_start_114 rfl rfl ?_
      refine zs_get 0 dX5_start_115 zf_RX5_30 rfl (v := .ref (ar 7)) rfl ?_
      refine zs_iload_n dX5_start_118 rfl ?_
      refine zs_aload_n dX5_start_119 rfl rfl ?_
      refine zs_get 0 dX5_start_120 zf_RX5_30 rfl (v := .ref (ar 7)) rfl ?_
      refine zs_iload_n dX5_start_123 rfl ?_
      refine zs_iald 7 dX5_start_124 rfl (vp_in_nI (by omega) (by omega)) ?_
      refine zs_as (y := nI ((s.2 7) p)) (by rw [nI_c (n := p) (by omega)]; rfl) ?_
      refine zs_iconst (v := nI 1) dX5_start_125 (by decide) ?_
      refine zs_iadd dX5_start_126 ?_
      refine zs_as (y := nI (((s.2 7) p) + 1)) (nI_add _ _) ?_
      refine zs_bipush (v := nI 30) dX5_start_127 (by decide) ?_
      refine zs_irem dX5_start_129 (fun hz => by rw [show (0 : Int32) = nI 0 from rfl, nI_eq' (by omega) (by omega)] at hz; omega) ?_
      refine zs_as (y := nI ((((s.2 7) p) + 1) % 30)) (nI_rem (by omega) (by omega) (by omega)) ?_
      refine zs_iast 7 dX5_start_130 rfl (vp_in_nI (by omega) (by omega)) ?_
      rw [nI_c (n := p) (by omega), nF_u]
      show zS _ _ _ _ _ _ [(ro, .inr (4, fRow ar (nF s.1) (.ref y))), (ar 1, .inl (0, 12, .inl (nF (s.2 1)))), (ar 2, .inl (0, 12, .inl (nF (s.2 2)))), (ar 3, .inl (0, 12, .inl (nF (s.2 3)))), (ar 4, .inl (0, 12, .inl (nF (un (s.2 4) p ((s.2 6) ((p * 30) + ((s.2 7) p))))))), (ar 5, .inl (0, 12, .inl (nF (s.2 5)))), (ar 6, .inl (0, 360, .inl (nF (s.2 6)))), (ar 7, .inl (0, 12, .inl (nF (un (s.2 7) p ((((s.2 7) p) + 1) % 30))))), (ar 8, .inl (0, 12, .inl (nF (s.2 8)))), (ar 9, .inl (0, 12, .inl (nF (s.2 9)))), (ar 10, .inl (0, 100, .inl (nF (s.2 10)))), (y, .inr (9, fYard ay (ysN Y wi))), (ay 1, .inl (0, 12, .inl nm)), (ay 2, .inl (0, 12, .inl (nF hdd))), (ay 3, .inl (0, 12, .inl (nF pcc))), (ay 4, .inl (0, 12, .inl (nF pww))), (ay 5, .inl (0, 64, .inl yf)), (ay 6, .inl (1, 64, .inl yb))]
      refine zs_aload_n dX5_start_131 rfl rfl ?_
      refine zs_get 0 dX5_start_132 zf_RX5_33 rfl (v := .ref (ar 8)) rfl ?_
      refine zs_iload_n dX5_start_135 rfl ?_
      refine zs_dup2 dX5_start_136 rfl rfl ?_
      refine zs_iald 8 dX5_start_137 rfl (vp_in_nI (by omega) (by omega)) ?_
      refine zs_as (y := nI ((s.2 8) p)) (by rw [nI_c (n := p) (by omega)]; rfl) ?_
      refine zs_iconst (v := nI 1) dX5_start_138 (by decide) ?_
      refine zs_isub dX5_start_139 ?_
      refine zs_as (y := nI (((s.2 8) p) - 1)) (nI_sub (by omega)) ?_
      refine zs_iast 8 dX5_start_140 rfl (vp_in_nI (by omega) (by omega)) ?_
      rw [nI_c (n := p) (by omega), nF_u]
      show zS _ _ _ _ _ _ [(ro, .inr (4, fRow ar (nF s.1) (.ref y))), (ar 1, .inl (0, 12, .inl (nF (s.2 1)))), (ar 2, .inl (0, 12, .inl (nF (s.2 2)))), (ar 3, .inl (0, 12, .inl (nF (s.2 3)))), (ar 4, .inl (0, 12, .inl (nF (un (s.2 4) p ((s.2 6) ((p * 30) + ((s.2 7) p))))))), (ar 5, .inl (0, 12, .inl (nF (s.2 5)))), (ar 6, .inl (0, 360, .inl (nF (s.2 6)))), (ar 7, .inl (0, 12, .inl (nF (un (s.2 7) p ((((s.2 7) p) + 1) % 30))))), (ar 8, .inl (0, 12, .inl (nF (un (s.2 8) p (((s.2 8) p) - 1))))), (ar 9, .inl (0, 12, .inl (nF (s.2 9)))), (ar 10, .inl (0, 100, .inl (nF (s.2 10)))), (y, .inr (9, fYard ay (ysN Y wi))), (ay 1, .inl (0, 12, .inl nm)), (ay 2, .inl (0, 12, .inl (nF hdd))), (ay 3, .inl (0, 12, .inl (nF pcc))), (ay 4, .inl (0, 12, .inl (nF pww))), (ay 5, .inl (0, 64, .inl yf)), (ay 6, .inl (1, 64, .inl yb))]
      refine zs_aload_n dX5_start_141 rfl rfl ?_
      refine zs_get 0 dX5_start_142 zf_RX5_24 rfl (v := .ref (ar 5)) rfl ?_
      refine zs_iload_n dX5_start_145 rfl ?_
      refine zs_iald 5 dX5_start_146 rfl (vp_in_nI (by omega) (by omega)) ?_
      refine zs_as (y := nI ((s.2 5) p)) (by rw [nI_c (n := p) (by omega)]; rfl) ?_
      refine zs_bipush (v := nI 10) dX5_start_147 (by decide) ?_
      refine zs_aload_n dX5_start_149 rfl rfl ?_
      refine zs_get 0 dX5_start_150 zf_RX5_42 rfl (v := .ref y) rfl ?_
      refine zs_get 11 dX5_start_153 zf_RX5_108 rfl (v := .ref (ay 4)) rfl ?_
      refine zs_aload_n dX5_start_156 rfl rfl ?_
      refine zs_get 0 dX5_start_157 zf_RX5_9 rfl (v := .ref (ar 1)) rfl ?_
      refine zs_iload_n dX5_start_160 rfl ?_
      refine zs_iald 1 dX5_start_161 rfl (vp_in_nI (by omega) (by omega)) ?_
      refine zs_as (y := nI ((s.2 1) p)) (by rw [nI_c (n := p) (by omega)]; rfl) ?_
      refine zs_iald 15 dX5_start_162 rfl (vp_in_nI (by omega) (by omega)) ?_
      refine zs_as (y := nI (pww ((s.2 1) p))) (by rw [nI_c (n := (s.2 1) p) (by omega)]; rfl) ?_
      refine zs_imul dX5_start_163 ?_
      refine zs_as (y := nI (10 * (pww ((s.2 1) p)))) (nI_mul _ _) ?_
      refine zs_icmp_lt (tgt := 171) dX5_start_164 (by decide) (fun c_3 => ?_) (fun c_3 => ?_)
      · have c_3 : ((s.2 5) p) < (10 * (pww ((s.2 1) p))) := by have hc := c_3; rw [nI_lt' (by omega) (by omega)] at hc; exact hc
        refine zs_iconst (v := nI 0) dX5_start_171 (by decide) ?_
        refine zs_istore_n (lv' := [(2, .int (nI 0)), (0, .ref ro), (1, .int (nI p))]) dX5_start_172 (Nat.le_of_ble_eq_true rfl) rfl ?_
        refine zs_aload_n dX5_start_173 rfl rfl ?_
        refine zs_get 0 dX5_start_174 zf_RX5_18 rfl (v := .ref (ar 3)) rfl ?_
        refine zs_iload_n dX5_start_177 rfl ?_
        refine zs_iload_n dX5_start_178 rfl ?_
        refine zs_if_eq (tgt := 193) dX5_start_179 (by decide) (fun c_4 => ?_) (fun c_4 => (c_4 rfl : False).elim)
        refine zs_aload_n dX5_start_193 rfl rfl ?_
        refine zs_get 0 dX5_start_194 zf_RX5_15 rfl (v := .ref (ar 2)) rfl ?_
        refine zs_iload_n dX5_start_197 rfl ?_
        refine zs_iald 2 dX5_start_198 rfl (vp_in_nI (by omega) (by omega)) ?_
        refine zs_as (y := nI ((s.2 2) p)) (by rw [nI_c (n := p) (by omega)]; rfl) ?_
        refine zs_iast 3 dX5_start_199 rfl (vp_in_nI (by omega) (by omega)) ?_
        rw [nI_c (n := p) (by omega), nF_u]
        show zS _ _ _ _ _ _ [(ro, .inr (4, fRow ar (nF s.1) (.ref y))), (ar 1, .inl (0, 12, .inl (nF (s.2 1)))), (ar 2, .inl (0, 12, .inl (nF (s.2 2)))), (ar 3, .inl (0, 12, .inl (nF (un (s.2 3) p ((s.2 2) p))))), (ar 4, .inl (0, 12, .inl (nF (un (s.2 4) p ((s.2 6) ((p * 30) + ((s.2 7) p))))))), (ar 5, .inl (0, 12, .inl (nF (s.2 5)))), (ar 6, .inl (0, 360, .inl (nF (s.2 6)))), (ar 7, .inl (0, 12, .inl (nF (un (s.2 7) p ((((s.2 7) p) + 1) % 30))))), (ar 8, .inl (0, 12, .inl (nF (un (s.2 8) p (((s.2 8) p) - 1))))), (ar 9, .inl (0, 12, .inl (nF (s.2 9)))), (ar 10, .inl (0, 100, .inl (nF (s.2 10)))), (y, .inr (9, fYard ay (ysN Y wi))), (ay 1, .inl (0, 12, .inl nm)), (ay 2, .inl (0, 12, .inl (nF hdd))), (ay 3, .inl (0, 12, .inl (nF pcc))), (ay 4, .inl (0, 12, .inl (nF pww))), (ay 5, .inl (0, 64, .inl yf)), (ay 6, .inl (1, 64, .inl yb))]
        exact zs_vret dX5_start_200 rfl ⟨rfl, by simp only [cSta, cLf, if_neg c_1, if_neg c_2, if_pos c_3]; rfl⟩
      · have c_3 : ¬ (((s.2 5) p) < (10 * (pww ((s.2 1) p)))) := by have hc := c_3; rw [nI_lt' (by omega) (by omega)] at hc; exact hc
        refine zs_iconst (v := nI 1) dX5_start_167 (by decide) ?_
        refine zs_goto (tgt := 172) dX5_start_168 (by decide) ?_
        refine zs_istore_n (lv' := [(2, .int (nI 1)), (0, .ref ro), (1, .int (nI p))]) dX5_start_172 (Nat.le_of_ble_eq_true rfl) rfl ?_
        refine zs_aload_n dX5_start_173 rfl rfl ?_
        refine zs_get 0 dX5_start_174 zf_RX5_18 rfl (v := .ref (ar 3)) rfl ?_
        refine zs_iload_n dX5_start_177 rfl ?_
        refine zs_iload_n dX5_start_178 rfl ?_
        refine zs_if_eq (tgt := 193) dX5_start_179 (by decide) (fun c_5 => ((by decide : ¬ nI 1 = 0) c_5 : False).elim) (fun c_5 => ?_)
        refine zs_iconst (v := nI 2) dX5_start_182 (by decide) ?_
        refine zs_aload_n dX5_start_183 rfl rfl ?_
        refine zs_get 0 dX5_start_184 zf_RX5_15 rfl (v := .ref (ar 2)) rfl ?_
        refine zs_iload_n dX5_start_187 rfl ?_
        refine zs_iald 2 dX5_start_188 rfl (vp_in_nI (by omega) (by omega)) ?_
        refine zs_as (y := nI ((s.2 2) p)) (by rw [nI_c (n := p) (by omega)]; rfl) ?_
        refine zs_imul dX5_start_189 ?_
        refine zs_as (y := nI (2 * ((s.2 2) p))) (nI_mul _ _) ?_
        refine zs_goto (tgt := 199) dX5_start_190 (by decide) ?_
        refine zs_iast 3 dX5_start_199 rfl (vp_in_nI (by omega) (by omega)) ?_
        rw [nI_c (n := p) (by omega), nF_u]
        show zS _ _ _ _ _ _ [(ro, .inr (4, fRow ar (nF s.1) (.ref y))), (ar 1, .inl (0, 12, .inl (nF (s.2 1)))), (ar 2, .inl (0, 12, .inl (nF (s.2 2)))), (ar 3, .inl (0, 12, .inl (nF (un (s.2 3) p (2 * ((s.2 2) p)))))), (ar 4, .inl (0, 12, .inl (nF (un (s.2 4) p ((s.2 6) ((p * 30) + ((s.2 7) p))))))), (ar 5, .inl (0, 12, .inl (nF (s.2 5)))), (ar 6, .inl (0, 360, .inl (nF (s.2 6)))), (ar 7, .inl (0, 12, .inl (nF (un (s.2 7) p ((((s.2 7) p) + 1) % 30))))), (ar 8, .inl (0, 12, .inl (nF (un (s.2 8) p (((s.2 8) p) - 1))))), (ar 9, .inl (0, 12, .inl (nF (s.2 9)))), (ar 10, .inl (0, 100, .inl (nF (s.2 10)))), (y, .inr (9, fYard ay (ysN Y wi))), (ay 1, .inl (0, 12, .inl nm)), (ay 2, .inl (0, 12, .inl (nF hdd))), (ay 3, .inl (0, 12, .inl (nF pcc))), (ay 4, .inl (0, 12, .inl (nF pww))), (ay 5, .inl (0, 64, .inl yf)), (ay 6, .inl (1, 64, .inl yb))]
        exact zs_vret dX5_start_200 rfl ⟨rfl, by simp only [cSta, cLf, if_neg c_1, if_neg c_2, if_neg c_3]; rfl⟩
    · have c_2 : ((s.2 8) p) = 0 := by have hc := c_2; rw [show (0 : Int32) = nI 0 from rfl] at hc; rw [nI_eq' (by omega) (by omega)] at hc; exact hc
      exact zs_vret dX5_start_91 rfl ⟨rfl, by simp only [cSta, cLf, if_neg c_1, if_pos c_2]; rfl⟩
  · have c_1 : p = 0 := by have hc := c_1; rw [show (0 : Int32) = nI 0 from rfl] at hc; rw [nI_eq' (by omega) (by omega)] at hc; exact hc
    have q0 := c_1
    refine zs_aload_n dX5_start_4 rfl rfl ?_
    refine zs_get 0 dX5_start_5 zf_RX5_68 rfl (v := .int (nI (s.1 13))) rfl ?_
    refine zs_if_eq (tgt := 18) dX5_start_8 (by decide) (fun c_6 => ?_) (fun c_6 => ?_)
    · have c_6 : (s.1 13) = 0 := by have hc := c_6; rw [show (0 : Int32) = nI 0 from rfl] at hc; rw [nI_eq' (by omega) (by omega)] at hc; exact hc
      exact zs_vret dX5_start_18 rfl ⟨rfl, by simp only [cSta, cLf, if_pos c_1, if_pos c_6]; rfl⟩
    · have c_6 : ¬ ((s.1 13) = 0) := by have hc := c_6; rw [show (0 : Int32) = nI 0 from rfl] at hc; rw [nI_eq' (by omega) (by omega)] at hc; exact hc
      refine zs_aload_n dX5_start_11 rfl rfl ?_
      refine zs_get 0 dX5_start_12 zf_RX5_71 rfl (v := .int (nI (s.1 14))) rfl ?_
      refine zs_if_ne (tgt := 19) dX5_start_15 (by decide) (fun c_7 => ?_) (fun c_7 => ?_)
      · have c_7 : ¬ ((s.1 14) = 0) := by have hc := c_7; rw [show (0 : Int32) = nI 0 from rfl] at hc; rw [nI_eq' (by omega) (by omega)] at hc; exact hc
        refine zs_aload_n dX5_start_19 rfl rfl ?_
        refine zs_dup dX5_start_20 rfl ?_
        refine zs_get 0 dX5_start_21 zf_RX5_68 rfl (v := .int (nI (s.1 13))) rfl ?_
        refine zs_iconst (v := nI 1) dX5_start_24 (by decide) ?_
        refine zs_isub dX5_start_25 ?_
        refine zs_as (y := nI ((s.1 13) - 1)) (nI_sub (by omega)) ?_
        refine zs_put 0 dX5_start_26 zf_RX5_68 rfl (Nat.le_of_ble_eq_true rfl) (zPv_i _) ?_
        show zS _ _ _ _ _ _ [(ro, .inr (4, fRow ar (nF (un s.1 13 ((s.1 13) - 1))) (.ref y))), (ar 1, .inl (0, 12, .inl (nF (s.2 1)))), (ar 2, .inl (0, 12, .inl (nF (s.2 2)))), (ar 3, .inl (0, 12, .inl (nF (s.2 3)))), (ar 4, .inl (0, 12, .inl (nF (s.2 4)))), (ar 5, .inl (0, 12, .inl (nF (s.2 5)))), (ar 6, .inl (0, 360, .inl (nF (s.2 6)))), (ar 7, .inl (0, 12, .inl (nF (s.2 7)))), (ar 8, .inl (0, 12, .inl (nF (s.2 8)))), (ar 9, .inl (0, 12, .inl (nF (s.2 9)))), (ar 10, .inl (0, 100, .inl (nF (s.2 10)))), (y, .inr (9, fYard ay (ysN Y wi))), (ay 1, .inl (0, 12, .inl nm)), (ay 2, .inl (0, 12, .inl (nF hdd))), (ay 3, .inl (0, 12, .inl (nF pcc))), (ay 4, .inl (0, 12, .inl (nF pww))), (ay 5, .inl (0, 64, .inl yf)), (ay 6, .inl (1, 64, .inl yb))]
        refine zs_aload_n dX5_start_29 rfl rfl ?_
        refine zs_get 0 dX5_start_30 zf_RX5_21 rfl (v := .ref (ar 4)) rfl ?_
        refine zs_iconst (v := nI 0) dX5_start_33 (by decide) ?_
        refine zs_aload_n dX5_start_34 rfl rfl ?_
        refine zs_get 0 dX5_start_35 zf_RX5_42 rfl (v := .ref y) rfl ?_
        refine zs_get 11 dX5_start_38 zf_RX5_105 rfl (v := .int (nI (Y 7))) rfl ?_
        refine zs_aload_n dX5_start_41 rfl rfl ?_
        refine zs_get 0 dX5_start_42 zf_RX5_71 rfl (v := .int (nI (s.1 14))) rfl ?_
        refine zs_mmin dX5_start_45 zl_RX5_46 zmmin1 zmath2 zmmin3 (show 1 ≤ dd by omega) (Nat.le_of_ble_eq_true rfl) ?_
        refine zs_as (y := nI (min (Y 7) (s.1 14))) (nI_min (by omega) (by omega)) ?_
        refine zs_iast 4 dX5_start_48 rfl (vp_in_nI (by omega) (by omega)) ?_
        rw [nI_c (n := 0) (by omega), nF_u]
        show zS _ _ _ _ _ _ [(ro, .inr (4, fRow ar (nF (un s.1 13 ((s.1 13) - 1))) (.ref y))), (ar 1, .inl (0, 12, .inl (nF (s.2 1)))), (ar 2, .inl (0, 12, .inl (nF (s.2 2)))), (ar 3, .inl (0, 12, .inl (nF (s.2 3)))), (ar 4, .inl (0, 12, .inl (nF (un (s.2 4) 0 (min (Y 7) (s.1 14)))))), (ar 5, .inl (0, 12, .inl (nF (s.2 5)))), (ar 6, .inl (0, 360, .inl (nF (s.2 6)))), (ar 7, .inl (0, 12, .inl (nF (s.2 7)))), (ar 8, .inl (0, 12, .inl (nF (s.2 8)))), (ar 9, .inl (0, 12, .inl (nF (s.2 9)))), (ar 10, .inl (0, 100, .inl (nF (s.2 10)))), (y, .inr (9, fYard ay (ysN Y wi))), (ay 1, .inl (0, 12, .inl nm)), (ay 2, .inl (0, 12, .inl (nF hdd))), (ay 3, .inl (0, 12, .inl (nF pcc))), (ay 4, .inl (0, 12, .inl (nF pww))), (ay 5, .inl (0, 64, .inl yf)), (ay 6, .inl (1, 64, .inl yb))]
        refine zs_aload_n dX5_start_49 rfl rfl ?_
        refine zs_dup dX5_start_50 rfl ?_
        refine zs_get 0 dX5_start_51 zf_RX5_71 rfl (v := .int (nI (s.1 14))) rfl ?_
        refine zs_aload_n dX5_start_54 rfl rfl ?_
        refine zs_get 0 dX5_start_55 zf_RX5_21 rfl (v := .ref (ar 4)) rfl ?_
        refine zs_iconst (v := nI 0) dX5_start_58 (by decide) ?_
        refine zs_iald 4 dX5_start_59 rfl (vp_in_nI (by omega) (by omega)) ?_
        refine zs_as (y := nI (min (Y 7) (s.1 14))) (by rw [nI_c (n := 0) (by omega)]; exact congrArg nI (if_pos rfl)) ?_
        refine zs_isub dX5_start_60 ?_
        refine zs_as (y := nI ((s.1 14) - (min (Y 7) (s.1 14)))) (nI_sub (by omega)) ?_
        refine zs_put 0 dX5_start_61 zf_RX5_71 rfl (Nat.le_of_ble_eq_true rfl) (zPv_i _) ?_
        show zS _ _ _ _ _ _ [(ro, .inr (4, fRow ar (nF (un (un s.1 13 ((s.1 13) - 1)) 14 ((s.1 14) - (min (Y 7) (s.1 14))))) (.ref y))), (ar 1, .inl (0, 12, .inl (nF (s.2 1)))), (ar 2, .inl (0, 12, .inl (nF (s.2 2)))), (ar 3, .inl (0, 12, .inl (nF (s.2 3)))), (ar 4, .inl (0, 12, .inl (nF (un (s.2 4) 0 (min (Y 7) (s.1 14)))))), (ar 5, .inl (0, 12, .inl (nF (s.2 5)))), (ar 6, .inl (0, 360, .inl (nF (s.2 6)))), (ar 7, .inl (0, 12, .inl (nF (s.2 7)))), (ar 8, .inl (0, 12, .inl (nF (s.2 8)))), (ar 9, .inl (0, 12, .inl (nF (s.2 9)))), (ar 10, .inl (0, 100, .inl (nF (s.2 10)))), (y, .inr (9, fYard ay (ysN Y wi))), (ay 1, .inl (0, 12, .inl nm)), (ay 2, .inl (0, 12, .inl (nF hdd))), (ay 3, .inl (0, 12, .inl (nF pcc))), (ay 4, .inl (0, 12, .inl (nF pww))), (ay 5, .inl (0, 64, .inl yf)), (ay 6, .inl (1, 64, .inl yb))]
        refine zs_aload_n dX5_start_64 rfl rfl ?_
        refine zs_dup dX5_start_65 rfl ?_
        refine zs_get 0 dX5_start_66 zf_RX5_77 rfl (v := .int (nI (s.1 16))) rfl ?_
        refine zs_aload_n dX5_start_69 rfl rfl ?_
        refine zs_get 0 dX5_start_70 zf_RX5_21 rfl (v := .ref (ar 4)) rfl ?_
        refine zs_iconst (v := nI 0) dX5_start_73 (by decide) ?_
        refine zs_iald 4 dX5_start_74 rfl (vp_in_nI (by omega) (by omega)) ?_
        refine zs_as (y := nI (min (Y 7) (s.1 14))) (by rw [nI_c (n := 0) (by omega)]; exact congrArg nI (if_pos rfl)) ?_
        refine zs_iadd dX5_start_75 ?_
        refine zs_as (y := nI ((s.1 16) + (min (Y 7) (s.1 14)))) (nI_add _ _) ?_
        refine zs_put 0 dX5_start_76 zf_RX5_77 rfl (Nat.le_of_ble_eq_true rfl) (zPv_i _) ?_
        show zS _ _ _ _ _ _ [(ro, .inr (4, fRow ar (nF (un (un (un s.1 13 ((s.1 13) - 1)) 14 ((s.1 14) - (min (Y 7) (s.1 14)))) 16 ((s.1 16) + (min (Y 7) (s.1 14))))) (.ref y))), (ar 1, .inl (0, 12, .inl (nF (s.2 1)))), (ar 2, .inl (0, 12, .inl (nF (s.2 2)))), (ar 3, .inl (0, 12, .inl (nF (s.2 3)))), (ar 4, .inl (0, 12, .inl (nF (un (s.2 4) 0 (min (Y 7) (s.1 14)))))), (ar 5, .inl (0, 12, .inl (nF (s.2 5)))), (ar 6, .inl (0, 360, .inl (nF (s.2 6)))), (ar 7, .inl (0, 12, .inl (nF (s.2 7)))), (ar 8, .inl (0, 12, .inl (nF (s.2 8)))), (ar 9, .inl (0, 12, .inl (nF (s.2 9)))), (ar 10, .inl (0, 100, .inl (nF (s.2 10)))), (y, .inr (9, fYard ay (ysN Y wi))), (ay 1, .inl (0, 12, .inl nm)), (ay 2, .inl (0, 12, .inl (nF hdd))), (ay 3, .inl (0, 12, .inl (nF pcc))), (ay 4, .inl (0, 12, .inl (nF pww))), (ay 5, .inl (0, 64, .inl yf)), (ay 6, .inl (1, 64, .inl yb))]
        refine zs_goto (tgt := 141) dX5_start_79 (by decide) ?_
        refine zs_aload_n dX5_start_141 rfl rfl ?_
        refine zs_get 0 dX5_start_142 zf_RX5_24 rfl (v := .ref (ar 5)) rfl ?_
        refine zs_iload_n dX5_start_145 rfl ?_
        refine zs_iald 5 dX5_start_146 rfl (vp_in_nI (by omega) (by omega)) ?_
        refine zs_as (y := nI ((s.2 5) p)) (by rw [nI_c (n := p) (by omega)]; rfl) ?_
        refine zs_bipush (v := nI 10) dX5_start_147 (by decide) ?_
        refine zs_aload_n dX5_start_149 rfl rfl ?_
        refine zs_get 0 dX5_start_150 zf_RX5_42 rfl (v := .ref y) rfl ?_
        refine zs_get 11 dX5_start_153 zf_RX5_108 rfl (v := .ref (ay 4)) rfl ?_
        refine zs_aload_n dX5_start_156 rfl rfl ?_
        refine zs_get 0 dX5_start_157 zf_RX5_9 rfl (v := .ref (ar 1)) rfl ?_
        refine zs_iload_n dX5_start_160 rfl ?_
        refine zs_iald 1 dX5_start_161 rfl (vp_in_nI (by omega) (by omega)) ?_
        refine zs_as (y := nI ((s.2 1) p)) (by rw [nI_c (n := p) (by omega)]; rfl) ?_
        refine zs_iald 15 dX5_start_162 rfl (vp_in_nI (by omega) (by omega)) ?_
        refine zs_as (y := nI (pww ((s.2 1) p))) (by rw [nI_c (n := (s.2 1) p) (by omega)]; rfl) ?_
        refine zs_imul dX5_start_163 ?_
        refine zs_as (y := nI (10 * (pww ((s.2 1) p)))) (nI_mul _ _) ?_
        refine zs_icmp_lt (tgt := 171) dX5_start_164 (by decide) (fun c_8 => ?_) (fun c_8 => ?_)
        · have c_8 : ((s.2 5) p) < (10 * (pww ((s.2 1) p))) := by have hc := c_8; rw [nI_lt' (by omega) (by omega)] at hc; exact hc
          refine zs_iconst (v := nI 0) dX5_start_171 (by decide) ?_
          refine zs_istore_n (lv' := [(2, .int (nI 0)), (0, .ref ro), (1, .int (nI p))]) dX5_start_172 (Nat.le_of_ble_eq_true rfl) rfl ?_
          refine zs_aload_n dX5_start_173 rfl rfl ?_
          refine zs_get 0 dX5_start_174 zf_RX5_18 rfl (v := .ref (ar 3)) rfl ?_
          refine zs_iload_n dX5_start_177 rfl ?_
          refine zs_iload_n dX5_start_178 rfl ?_
          refine zs_if_eq (tgt := 193) dX5_start_179 (by decide) (fun c_9 => ?_) (fun c_9 => (c_9 rfl : False).elim)
          refine zs_aload_n dX5_start_193 rfl rfl ?_
          refine zs_get 0 dX5_start_194 zf_RX5_15 rfl (v := .ref (ar 2)) rfl ?_
          refine zs_iload_n dX5_start_197 rfl ?_
          refine zs_iald 2 dX5_start_198 rfl (vp_in_nI (by omega) (by omega)) ?_
          refine zs_as (y := nI ((s.2 2) p)) (by rw [nI_c (n := p) (by omega)]; rfl) ?_
          refine zs_iast 3 dX5_start_199 rfl (vp_in_nI (by omega) (by omega)) ?_
          rw [nI_c (n := p) (by omega), nF_u]
          show zS _ _ _ _ _ _ [(ro, .inr (4, fRow ar (nF (un (un (un s.1 13 ((s.1 13) - 1)) 14 ((s.1 14) - (min (Y 7) (s.1 14)))) 16 ((s.1 16) + (min (Y 7) (s.1 14))))) (.ref y))), (ar 1, .inl (0, 12, .inl (nF (s.2 1)))), (ar 2, .inl (0, 12, .inl (nF (s.2 2)))), (ar 3, .inl (0, 12, .inl (nF (un (s.2 3) p ((s.2 2) p))))), (ar 4, .inl (0, 12, .inl (nF (un (s.2 4) 0 (min (Y 7) (s.1 14)))))), (ar 5, .inl (0, 12, .inl (nF (s.2 5)))), (ar 6, .inl (0, 360, .inl (nF (s.2 6)))), (ar 7, .inl (0, 12, .inl (nF (s.2 7)))), (ar 8, .inl (0, 12, .inl (nF (s.2 8)))), (ar 9, .inl (0, 12, .inl (nF (s.2 9)))), (ar 10, .inl (0, 100, .inl (nF (s.2 10)))), (y, .inr (9, fYard ay (ysN Y wi))), (ay 1, .inl (0, 12, .inl nm)), (ay 2, .inl (0, 12, .inl (nF hdd))), (ay 3, .inl (0, 12, .inl (nF pcc))), (ay 4, .inl (0, 12, .inl (nF pww))), (ay 5, .inl (0, 64, .inl yf)), (ay 6, .inl (1, 64, .inl yb))]
          exact zs_vret dX5_start_200 rfl ⟨rfl, by simp only [cSta, cLf, if_pos c_1, if_neg c_6, if_neg c_7, if_pos c_8]; rfl⟩
        · have c_8 : ¬ (((s.2 5) p) < (10 * (pww ((s.2 1) p)))) := by have hc := c_8; rw [nI_lt' (by omega) (by omega)] at hc; exact hc
          refine zs_iconst (v := nI 1) dX5_start_167 (by decide) ?_
          refine zs_goto (tgt := 172) dX5_start_168 (by decide) ?_
          refine zs_istore_n (lv' := [(2, .int (nI 1)), (0, .ref ro), (1, .int (nI p))]) dX5_start_172 (Nat.le_of_ble_eq_true rfl) rfl ?_
          refine zs_aload_n dX5_start_173 rfl rfl ?_
          refine zs_get 0 dX5_start_174 zf_RX5_18 rfl (v := .ref (ar 3)) rfl ?_
          refine zs_iload_n dX5_start_177 rfl ?_
          refine zs_iload_n dX5_start_178 rfl ?_
          refine zs_if_eq (tgt := 193) dX5_start_179 (by decide) (fun c_10 => ((by decide : ¬ nI 1 = 0) c_10 : False).elim) (fun c_10 => ?_)
          refine zs_iconst (v := nI 2) dX5_start_182 (by decide) ?_
          refine zs_aload_n dX5_start_183 rfl rfl ?_
          refine zs_get 0 dX5_start_184 zf_RX5_15 rfl (v := .ref (ar 2)) rfl ?_
          refine zs_iload_n dX5_start_187 rfl ?_
          refine zs_iald 2 dX5_start_188 rfl (vp_in_nI (by omega) (by omega)) ?_
          refine zs_as (y := nI ((s.2 2) p)) (by rw [nI_c (n := p) (by omega)]; rfl) ?_
          refine zs_imul dX5_start_189 ?_
          refine zs_as (y := nI (2 * ((s.2 2) p))) (nI_mul _ _) ?_
          refine zs_goto (tgt := 199) dX5_start_190 (by decide) ?_
          refine zs_iast 3 dX5_start_199 rfl (vp_in_nI (by omega) (by omega)) ?_
          rw [nI_c (n := p) (by omega), nF_u]
          show zS _ _ _ _ _ _ [(ro, .inr (4, fRow ar (nF (un (un (un s.1 13 ((s.1 13) - 1)) 14 ((s.1 14) - (min (Y 7) (s.1 14)))) 16 ((s.1 16) + (min (Y 7) (s.1 14))))) (.ref y))), (ar 1, .inl (0, 12, .inl (nF (s.2 1)))), (ar 2, .inl (0, 12, .inl (nF (s.2 2)))), (ar 3, .inl (0, 12, .inl (nF (un (s.2 3) p (2 * ((s.2 2) p)))))), (ar 4, .inl (0, 12, .inl (nF (un (s.2 4) 0 (min (Y 7) (s.1 14)))))), (ar 5, .inl (0, 12, .inl (nF (s.2 5)))), (ar 6, .inl (0, 360, .inl (nF (s.2 6)))), (ar 7, .inl (0, 12, .inl (nF (s.2 7)))), (ar 8, .inl (0, 12, .inl (nF (s.2 8)))), (ar 9, .inl (0, 12, .inl (nF (s.2 9)))), (ar 10, .inl (0, 100, .inl (nF (s.2 10)))), (y, .inr (9, fYard ay (ysN Y wi))), (ay 1, .inl (0, 12, .inl nm)), (ay 2, .inl (0, 12, .inl (nF hdd))), (ay 3, .inl (0, 12, .inl (nF pcc))), (ay 4, .inl (0, 12, .inl (nF pww))), (ay 5, .inl (0, 64, .inl yf)), (ay 6, .inl (1, 64, .inl yb))]
          exact zs_vret dX5_start_200 rfl ⟨rfl, by simp only [cSta, cLf, if_pos c_1, if_neg c_6, if_neg c_7, if_neg c_8]; rfl⟩
      · have c_7 : (s.1 14) = 0 := by have hc := c_7; rw [show (0 : Int32) = nI 0 from rfl] at hc; rw [nI_eq' (by omega) (by omega)] at hc; exact hc
        exact zs_vret dX5_start_18 rfl ⟨rfl, by simp only [cSta, cLf, if_pos c_1, if_neg c_6, if_pos c_7]; rfl⟩
